theorem dL_comes_0 : decode cL_comes 0 = .ok (.aload_n 0, 1) := by decide +kernel
theorem dL_comes_1 : decode cL_comes 1 = .ok (.iload_n 1, 1) := by decide +kernel
theorem dL_comes_2 : decode cL_comes 2 = .ok (.iload_n 2, 1) := by decide +kernel
theorem dL_comes_3 : decode cL_comes 3 = .ok (.iload_n 3, 1) := by decide +kernel
theorem dL_comes_4 : decode cL_comes 4 = .ok (.iload 4, 2) := by decide +kernel
theorem dL_comes_6 : decode cL_comes 6 = .ok (.invokevirtual 7, 3) := by decide +kernel
theorem dL_comes_9 : decode cL_comes 9 = .ok (.ireturn, 1) := by decide +kernel
theorem dL_comes_10 : decode cL_comes 10 = .ok (.astore 5, 2) := by decide +kernel
theorem dL_comes_12 : decode cL_comes 12 = .ok (.ldc 15, 2) := by decide +kernel
theorem dL_comes_14 : decode cL_comes 14 = .ok (.ireturn, 1) := by decide +kernel
theorem dL_comes_15 : decode cL_comes 15 = .ok (.astore 5, 2) := by decide +kernel
theorem dL_comes_17 : decode cL_comes 17 = .ok (.ldc 18, 2) := by decide +kernel
theorem dL_comes_19 : decode cL_comes 19 = .ok (.ireturn, 1) := by decide +kernel
theorem dL_comes_20 : decode cL_comes 20 = .ok (.astore 5, 2) := by decide +kernel
theorem dL_comes_22 : decode cL_comes 22 = .ok (.ldc 21, 2) := by decide +kernel
theorem dL_comes_24 : decode cL_comes 24 = .ok (.ireturn, 1) := by decide +kernel
theorem dL_doScript_0 : decode cL_doScript 0 = .ok (.aload_n 0, 1) := by decide +kernel
theorem dL_doScript_1 : decode cL_doScript 1 = .ok (.iload_n 1, 1) := by decide +kernel
theorem dL_doScript_2 : decode cL_doScript 2 = .ok (.lload_n 2, 1) := by decide +kernel
theorem dL_doScript_3 : decode cL_doScript 3 = .ok (.invokevirtual 22, 3) := by decide +kernel
theorem dL_doScript_6 : decode cL_doScript 6 = .ok (.ireturn, 1) := by decide +kernel
theorem dL_doScript_7 : decode cL_doScript 7 = .ok (.astore 4, 2) := by decide +kernel
theorem dL_doScript_9 : decode cL_doScript 9 = .ok (.ldc 18, 2) := by decide +kernel
theorem dL_doScript_11 : decode cL_doScript 11 = .ok (.ireturn, 1) := by decide +kernel
theorem dL_doSimulate_0 : decode cL_doSimulate 0 = .ok (.aload_n 0, 1) := by decide +kernel
theorem dL_doSimulate_1 : decode cL_doSimulate 1 = .ok (.lload_n 1, 1) := by decide +kernel
theorem dL_doSimulate_2 : decode cL_doSimulate 2 = .ok (.iload_n 3, 1) := by decide +kernel
theorem dL_doSimulate_3 : decode cL_doSimulate 3 = .ok (.invokevirtual 26, 3) := by decide +kernel
theorem dL_doSimulate_6 : decode cL_doSimulate 6 = .ok (.ireturn, 1) := by decide +kernel
theorem dL_doSimulate_7 : decode cL_doSimulate 7 = .ok (.astore 4, 2) := by decide +kernel
theorem dL_doSimulate_9 : decode cL_doSimulate 9 = .ok (.ldc 18, 2) := by decide +kernel
theorem dL_doSimulate_11 : decode cL_doSimulate 11 = .ok (.ireturn, 1) := by decide +kernel
theorem dL_tryAppend_0 : decode cL_tryAppend 0 = .ok (.aload_n 0, 1) := by decide +kernel
theorem dL_tryAppend_1 : decode cL_tryAppend 1 = .ok (.iload_n 1, 1) := by decide +kernel
theorem dL_tryAppend_2 : decode cL_tryAppend 2 = .ok (.invokevirtual 30, 3) := by decide +kernel
theorem dL_tryAppend_5 : decode cL_tryAppend 5 = .ok (.ireturn, 1) := by decide +kernel
theorem dL_tryAppend_6 : decode cL_tryAppend 6 = .ok (.astore_n 2, 1) := by decide +kernel
theorem dL_tryAppend_7 : decode cL_tryAppend 7 = .ok (.ldc 18, 2) := by decide +kernel
theorem dL_tryAppend_9 : decode cL_tryAppend 9 = .ok (.ireturn, 1) := by decide +kernel
theorem dL_tryAppend_10 : decode cL_tryAppend 10 = .ok (.astore_n 2, 1) := by decide +kernel
theorem dL_tryAppend_11 : decode cL_tryAppend 11 = .ok (.ldc 21, 2) := by decide +kernel
theorem dL_tryAppend_13 : decode cL_tryAppend 13 = .ok (.ireturn, 1) := by decide +kernel
theorem dL_tryLoad_0 : decode cL_tryLoad 0 = .ok (.aload_n 0, 1) := by decide +kernel
theorem dL_tryLoad_1 : decode cL_tryLoad 1 = .ok (.invokevirtual 34, 3) := by decide +kernel
theorem dL_tryLoad_4 : decode cL_tryLoad 4 = .ok (.ireturn, 1) := by decide +kernel
theorem dL_tryLoad_5 : decode cL_tryLoad 5 = .ok (.astore_n 1, 1) := by decide +kernel
theorem dL_tryLoad_6 : decode cL_tryLoad 6 = .ok (.ldc 21, 2) := by decide +kernel
theorem dL_tryLoad_8 : decode cL_tryLoad 8 = .ok (.ireturn, 1) := by decide +kernel
theorem dL_tryAbout_0 : decode cL_tryAbout 0 = .ok (.aload_n 0, 1) := by decide +kernel
theorem dL_tryAbout_1 : decode cL_tryAbout 1 = .ok (.iload_n 1, 1) := by decide +kernel
theorem dL_tryAbout_2 : decode cL_tryAbout 2 = .ok (.invokevirtual 38, 3) := by decide +kernel
theorem dL_tryAbout_5 : decode cL_tryAbout 5 = .ok (.ireturn, 1) := by decide +kernel
theorem dL_tryAbout_6 : decode cL_tryAbout 6 = .ok (.astore_n 2, 1) := by decide +kernel
theorem dL_tryAbout_7 : decode cL_tryAbout 7 = .ok (.ldc 18, 2) := by decide +kernel
theorem dL_tryAbout_9 : decode cL_tryAbout 9 = .ok (.ireturn, 1) := by decide +kernel
theorem dL_tryGuest_0 : decode cL_tryGuest 0 = .ok (.aload_n 0, 1) := by decide +kernel
theorem dL_tryGuest_1 : decode cL_tryGuest 1 = .ok (.iload_n 1, 1) := by decide +kernel
theorem dL_tryGuest_2 : decode cL_tryGuest 2 = .ok (.iload_n 2, 1) := by decide +kernel
theorem dL_tryGuest_3 : decode cL_tryGuest 3 = .ok (.invokevirtual 41, 3) := by decide +kernel
theorem dL_tryGuest_6 : decode cL_tryGuest 6 = .ok (.ireturn, 1) := by decide +kernel
theorem dL_tryGuest_7 : decode cL_tryGuest 7 = .ok (.astore_n 3, 1) := by decide +kernel
theorem dL_tryGuest_8 : decode cL_tryGuest 8 = .ok (.ldc 15, 2) := by decide +kernel
theorem dL_tryGuest_10 : decode cL_tryGuest 10 = .ok (.ireturn, 1) := by decide +kernel
theorem dL_tryGuest_11 : decode cL_tryGuest 11 = .ok (.astore_n 3, 1) := by decide +kernel
theorem dL_tryGuest_12 : decode cL_tryGuest 12 = .ok (.ldc 18, 2) := by decide +kernel
theorem dL_tryGuest_14 : decode cL_tryGuest 14 = .ok (.ireturn, 1) := by decide +kernel
theorem dL_tryFloor_0 : decode cL_tryFloor 0 = .ok (.aload_n 0, 1) := by decide +kernel
theorem dL_tryFloor_1 : decode cL_tryFloor 1 = .ok (.iload_n 1, 1) := by decide +kernel
theorem dL_tryFloor_2 : decode cL_tryFloor 2 = .ok (.iload_n 2, 1) := by decide +kernel
theorem dL_tryFloor_3 : decode cL_tryFloor 3 = .ok (.invokevirtual 45, 3) := by decide +kernel
theorem dL_tryFloor_6 : decode cL_tryFloor 6 = .ok (.ireturn, 1) := by decide +kernel
theorem dL_tryFloor_7 : decode cL_tryFloor 7 = .ok (.astore_n 3, 1) := by decide +kernel
theorem dL_tryFloor_8 : decode cL_tryFloor 8 = .ok (.ldc 15, 2) := by decide +kernel
theorem dL_tryFloor_10 : decode cL_tryFloor 10 = .ok (.ireturn, 1) := by decide +kernel
theorem dL_tryFloor_11 : decode cL_tryFloor 11 = .ok (.astore_n 3, 1) := by decide +kernel
theorem dL_tryFloor_12 : decode cL_tryFloor 12 = .ok (.ldc 18, 2) := by decide +kernel
theorem dL_tryFloor_14 : decode cL_tryFloor 14 = .ok (.ireturn, 1) := by decide +kernel
theorem dL_trySetting_0 : decode cL_trySetting 0 = .ok (.aload_n 0, 1) := by decide +kernel
theorem dL_trySetting_1 : decode cL_trySetting 1 = .ok (.iload_n 1, 1) := by decide +kernel
theorem dL_trySetting_2 : decode cL_trySetting 2 = .ok (.invokevirtual 48, 3) := by decide +kernel
theorem dL_trySetting_5 : decode cL_trySetting 5 = .ok (.ireturn, 1) := by decide +kernel
theorem dL_trySetting_6 : decode cL_trySetting 6 = .ok (.astore_n 2, 1) := by decide +kernel
theorem dL_trySetting_7 : decode cL_trySetting 7 = .ok (.ldc 18, 2) := by decide +kernel
theorem dL_trySetting_9 : decode cL_trySetting 9 = .ok (.ireturn, 1) := by decide +kernel
theorem dL_tryLeave_0 : decode cL_tryLeave 0 = .ok (.aload_n 0, 1) := by decide +kernel
theorem dL_tryLeave_1 : decode cL_tryLeave 1 = .ok (.iload_n 1, 1) := by decide +kernel
theorem dL_tryLeave_2 : decode cL_tryLeave 2 = .ok (.invokevirtual 51, 3) := by decide +kernel
theorem dL_tryLeave_5 : decode cL_tryLeave 5 = .ok (.ireturn, 1) := by decide +kernel
theorem dL_tryLeave_6 : decode cL_tryLeave 6 = .ok (.astore_n 2, 1) := by decide +kernel
theorem dL_tryLeave_7 : decode cL_tryLeave 7 = .ok (.ldc 15, 2) := by decide +kernel
theorem dL_tryLeave_9 : decode cL_tryLeave 9 = .ok (.ireturn, 1) := by decide +kernel
theorem dL_tryPress_0 : decode cL_tryPress 0 = .ok (.aload_n 0, 1) := by decide +kernel
theorem dL_tryPress_1 : decode cL_tryPress 1 = .ok (.iload_n 1, 1) := by decide +kernel
theorem dL_tryPress_2 : decode cL_tryPress 2 = .ok (.invokevirtual 54, 3) := by decide +kernel
theorem dL_tryPress_5 : decode cL_tryPress 5 = .ok (.ireturn, 1) := by decide +kernel
theorem dL_tryPress_6 : decode cL_tryPress 6 = .ok (.astore_n 2, 1) := by decide +kernel
theorem dL_tryPress_7 : decode cL_tryPress 7 = .ok (.ldc 15, 2) := by decide +kernel
theorem dL_tryPress_9 : decode cL_tryPress 9 = .ok (.ireturn, 1) := by decide +kernel
theorem dL_tryLay_0 : decode cL_tryLay 0 = .ok (.aload_n 0, 1) := by decide +kernel
theorem dL_tryLay_1 : decode cL_tryLay 1 = .ok (.iload_n 1, 1) := by decide +kernel
theorem dL_tryLay_2 : decode cL_tryLay 2 = .ok (.iload_n 2, 1) := by decide +kernel
theorem dL_tryLay_3 : decode cL_tryLay 3 = .ok (.invokevirtual 57, 3) := by decide +kernel
theorem dL_tryLay_6 : decode cL_tryLay 6 = .ok (.ireturn, 1) := by decide +kernel
theorem dL_tryLay_7 : decode cL_tryLay 7 = .ok (.astore_n 3, 1) := by decide +kernel
theorem dL_tryLay_8 : decode cL_tryLay 8 = .ok (.ldc 18, 2) := by decide +kernel
theorem dL_tryLay_10 : decode cL_tryLay 10 = .ok (.ireturn, 1) := by decide +kernel
theorem dL_tryUndo_0 : decode cL_tryUndo 0 = .ok (.aload_n 0, 1) := by decide +kernel
theorem dL_tryUndo_1 : decode cL_tryUndo 1 = .ok (.invokevirtual 60, 3) := by decide +kernel
theorem dL_tryUndo_4 : decode cL_tryUndo 4 = .ok (.ireturn, 1) := by decide +kernel
theorem dL_tryUndo_5 : decode cL_tryUndo 5 = .ok (.astore_n 1, 1) := by decide +kernel
theorem dL_tryUndo_6 : decode cL_tryUndo 6 = .ok (.ldc 21, 2) := by decide +kernel
theorem dL_tryUndo_8 : decode cL_tryUndo 8 = .ok (.ireturn, 1) := by decide +kernel
theorem dL_tryWhy_0 : decode cL_tryWhy 0 = .ok (.aload_n 0, 1) := by decide +kernel
theorem dL_tryWhy_1 : decode cL_tryWhy 1 = .ok (.iload_n 1, 1) := by decide +kernel
theorem dL_tryWhy_2 : decode cL_tryWhy 2 = .ok (.invokevirtual 63, 3) := by decide +kernel
theorem dL_tryWhy_5 : decode cL_tryWhy 5 = .ok (.ireturn, 1) := by decide +kernel
theorem dL_tryWhy_6 : decode cL_tryWhy 6 = .ok (.astore_n 2, 1) := by decide +kernel
theorem dL_tryWhy_7 : decode cL_tryWhy 7 = .ok (.ldc 15, 2) := by decide +kernel
theorem dL_tryWhy_9 : decode cL_tryWhy 9 = .ok (.ireturn, 1) := by decide +kernel
theorem dL_tryFewest_0 : decode cL_tryFewest 0 = .ok (.aload_n 0, 1) := by decide +kernel
theorem dL_tryFewest_1 : decode cL_tryFewest 1 = .ok (.iload_n 1, 1) := by decide +kernel
theorem dL_tryFewest_2 : decode cL_tryFewest 2 = .ok (.invokevirtual 66, 3) := by decide +kernel
theorem dL_tryFewest_5 : decode cL_tryFewest 5 = .ok (.ireturn, 1) := by decide +kernel
theorem dL_tryFewest_6 : decode cL_tryFewest 6 = .ok (.astore_n 2, 1) := by decide +kernel
theorem dL_tryFewest_7 : decode cL_tryFewest 7 = .ok (.ldc 18, 2) := by decide +kernel
theorem dL_tryFewest_9 : decode cL_tryFewest 9 = .ok (.ireturn, 1) := by decide +kernel
theorem dL_tryIf_0 : decode cL_tryIf 0 = .ok (.aload_n 0, 1) := by decide +kernel
theorem dL_tryIf_1 : decode cL_tryIf 1 = .ok (.iload_n 1, 1) := by decide +kernel
theorem dL_tryIf_2 : decode cL_tryIf 2 = .ok (.iload_n 2, 1) := by decide +kernel
theorem dL_tryIf_3 : decode cL_tryIf 3 = .ok (.iload_n 3, 1) := by decide +kernel
theorem dL_tryIf_4 : decode cL_tryIf 4 = .ok (.invokevirtual 69, 3) := by decide +kernel
theorem dL_tryIf_7 : decode cL_tryIf 7 = .ok (.ireturn, 1) := by decide +kernel
theorem dL_tryIf_8 : decode cL_tryIf 8 = .ok (.astore 4, 2) := by decide +kernel
theorem dL_tryIf_10 : decode cL_tryIf 10 = .ok (.ldc 18, 2) := by decide +kernel
theorem dL_tryIf_12 : decode cL_tryIf 12 = .ok (.ireturn, 1) := by decide +kernel
theorem dL_tryLeft_0 : decode cL_tryLeft 0 = .ok (.aload_n 0, 1) := by decide +kernel
theorem dL_tryLeft_1 : decode cL_tryLeft 1 = .ok (.iload_n 1, 1) := by decide +kernel
theorem dL_tryLeft_2 : decode cL_tryLeft 2 = .ok (.invokevirtual 73, 3) := by decide +kernel
theorem dL_tryLeft_5 : decode cL_tryLeft 5 = .ok (.ireturn, 1) := by decide +kernel
theorem dL_tryLeft_6 : decode cL_tryLeft 6 = .ok (.astore_n 2, 1) := by decide +kernel
theorem dL_tryLeft_7 : decode cL_tryLeft 7 = .ok (.ldc 15, 2) := by decide +kernel
theorem dL_tryLeft_9 : decode cL_tryLeft 9 = .ok (.ireturn, 1) := by decide +kernel
theorem dL_tryKeep_0 : decode cL_tryKeep 0 = .ok (.aload_n 0, 1) := by decide +kernel
theorem dL_tryKeep_1 : decode cL_tryKeep 1 = .ok (.iload_n 1, 1) := by decide +kernel
theorem dL_tryKeep_2 : decode cL_tryKeep 2 = .ok (.invokevirtual 76, 3) := by decide +kernel
theorem dL_tryKeep_5 : decode cL_tryKeep 5 = .ok (.ireturn, 1) := by decide +kernel
theorem dL_tryKeep_6 : decode cL_tryKeep 6 = .ok (.astore_n 2, 1) := by decide +kernel
theorem dL_tryKeep_7 : decode cL_tryKeep 7 = .ok (.ldc 15, 2) := by decide +kernel
theorem dL_tryKeep_9 : decode cL_tryKeep 9 = .ok (.ireturn, 1) := by decide +kernel
theorem dL_tryBack_0 : decode cL_tryBack 0 = .ok (.aload_n 0, 1) := by decide +kernel
theorem dL_tryBack_1 : decode cL_tryBack 1 = .ok (.iload_n 1, 1) := by decide +kernel
theorem dL_tryBack_2 : decode cL_tryBack 2 = .ok (.invokevirtual 79, 3) := by decide +kernel
theorem dL_tryBack_5 : decode cL_tryBack 5 = .ok (.ireturn, 1) := by decide +kernel
theorem dL_tryBack_6 : decode cL_tryBack 6 = .ok (.astore_n 2, 1) := by decide +kernel
theorem dL_tryBack_7 : decode cL_tryBack 7 = .ok (.ldc 15, 2) := by decide +kernel
theorem dL_tryBack_9 : decode cL_tryBack 9 = .ok (.ireturn, 1) := by decide +kernel
theorem dL_tryBack_10 : decode cL_tryBack 10 = .ok (.astore_n 2, 1) := by decide +kernel
theorem dL_tryBack_11 : decode cL_tryBack 11 = .ok (.ldc 21, 2) := by decide +kernel
theorem dL_tryBack_13 : decode cL_tryBack 13 = .ok (.ireturn, 1) := by decide +kernel
theorem dL_call_0 : decode cL_call 0 = .ok (.iload_n 1, 1) := by decide +kernel
theorem dL_call_1 : decode cL_call 1 = .ok (.tableswitch 169 0 14 #[75, 81, 86, 92, 99, 106, 112, 118, 124, 131, 136, 142, 148, 157, 163], 75) := by decide +kernel
theorem dL_call_76 : decode cL_call 76 = .ok (.aload_n 0, 1) := by decide +kernel
theorem dL_call_77 : decode cL_call 77 = .ok (.iload_n 2, 1) := by decide +kernel
theorem dL_call_78 : decode cL_call 78 = .ok (.invokestatic 82, 3) := by decide +kernel
theorem dL_call_81 : decode cL_call 81 = .ok (.ireturn, 1) := by decide +kernel
theorem dL_call_82 : decode cL_call 82 = .ok (.aload_n 0, 1) := by decide +kernel
theorem dL_call_83 : decode cL_call 83 = .ok (.invokestatic 88, 3) := by decide +kernel
theorem dL_call_86 : decode cL_call 86 = .ok (.ireturn, 1) := by decide +kernel
theorem dL_call_87 : decode cL_call 87 = .ok (.aload_n 0, 1) := by decide +kernel
theorem dL_call_88 : decode cL_call 88 = .ok (.iload_n 2, 1) := by decide +kernel
theorem dL_call_89 : decode cL_call 89 = .ok (.invokestatic 92, 3) := by decide +kernel
theorem dL_call_92 : decode cL_call 92 = .ok (.ireturn, 1) := by decide +kernel
theorem dL_call_93 : decode cL_call 93 = .ok (.aload_n 0, 1) := by decide +kernel
theorem dL_call_94 : decode cL_call 94 = .ok (.iload_n 2, 1) := by decide +kernel
theorem dL_call_95 : decode cL_call 95 = .ok (.iload_n 3, 1) := by decide +kernel
theorem dL_call_96 : decode cL_call 96 = .ok (.invokestatic 95, 3) := by decide +kernel
theorem dL_call_99 : decode cL_call 99 = .ok (.ireturn, 1) := by decide +kernel
theorem dL_call_100 : decode cL_call 100 = .ok (.aload_n 0, 1) := by decide +kernel
theorem dL_call_101 : decode cL_call 101 = .ok (.iload_n 2, 1) := by decide +kernel
theorem dL_call_102 : decode cL_call 102 = .ok (.iload_n 3, 1) := by decide +kernel
theorem dL_call_103 : decode cL_call 103 = .ok (.invokestatic 99, 3) := by decide +kernel
theorem dL_call_106 : decode cL_call 106 = .ok (.ireturn, 1) := by decide +kernel
theorem dL_call_107 : decode cL_call 107 = .ok (.aload_n 0, 1) := by decide +kernel
theorem dL_call_108 : decode cL_call 108 = .ok (.iload_n 2, 1) := by decide +kernel
theorem dL_call_109 : decode cL_call 109 = .ok (.invokestatic 102, 3) := by decide +kernel
theorem dL_call_112 : decode cL_call 112 = .ok (.ireturn, 1) := by decide +kernel
theorem dL_call_113 : decode cL_call 113 = .ok (.aload_n 0, 1) := by decide +kernel
theorem dL_call_114 : decode cL_call 114 = .ok (.iload_n 2, 1) := by decide +kernel
theorem dL_call_115 : decode cL_call 115 = .ok (.invokestatic 105, 3) := by decide +kernel
theorem dL_call_118 : decode cL_call 118 = .ok (.ireturn, 1) := by decide +kernel
theorem dL_call_119 : decode cL_call 119 = .ok (.aload_n 0, 1) := by decide +kernel
theorem dL_call_120 : decode cL_call 120 = .ok (.iload_n 2, 1) := by decide +kernel
theorem dL_call_121 : decode cL_call 121 = .ok (.invokestatic 108, 3) := by decide +kernel
theorem dL_call_124 : decode cL_call 124 = .ok (.ireturn, 1) := by decide +kernel
theorem dL_call_125 : decode cL_call 125 = .ok (.aload_n 0, 1) := by decide +kernel
theorem dL_call_126 : decode cL_call 126 = .ok (.iload_n 2, 1) := by decide +kernel
theorem dL_call_127 : decode cL_call 127 = .ok (.iload_n 3, 1) := by decide +kernel
theorem dL_call_128 : decode cL_call 128 = .ok (.invokestatic 111, 3) := by decide +kernel
theorem dL_call_131 : decode cL_call 131 = .ok (.ireturn, 1) := by decide +kernel
theorem dL_call_132 : decode cL_call 132 = .ok (.aload_n 0, 1) := by decide +kernel
theorem dL_call_133 : decode cL_call 133 = .ok (.invokestatic 114, 3) := by decide +kernel
theorem dL_call_136 : decode cL_call 136 = .ok (.ireturn, 1) := by decide +kernel
theorem dL_call_137 : decode cL_call 137 = .ok (.aload_n 0, 1) := by decide +kernel
theorem dL_call_138 : decode cL_call 138 = .ok (.iload_n 2, 1) := by decide +kernel
theorem dL_call_139 : decode cL_call 139 = .ok (.invokestatic 117, 3) := by decide +kernel
theorem dL_call_142 : decode cL_call 142 = .ok (.ireturn, 1) := by decide +kernel
theorem dL_call_143 : decode cL_call 143 = .ok (.aload_n 0, 1) := by decide +kernel
theorem dL_call_144 : decode cL_call 144 = .ok (.iload_n 2, 1) := by decide +kernel
theorem dL_call_145 : decode cL_call 145 = .ok (.invokestatic 120, 3) := by decide +kernel
theorem dL_call_148 : decode cL_call 148 = .ok (.ireturn, 1) := by decide +kernel
theorem dL_call_149 : decode cL_call 149 = .ok (.aload_n 0, 1) := by decide +kernel
theorem dL_call_150 : decode cL_call 150 = .ok (.iload_n 2, 1) := by decide +kernel
theorem dL_call_151 : decode cL_call 151 = .ok (.iload_n 3, 1) := by decide +kernel
theorem dL_call_152 : decode cL_call 152 = .ok (.iload 4, 2) := by decide +kernel
theorem dL_call_154 : decode cL_call 154 = .ok (.invokestatic 123, 3) := by decide +kernel
theorem dL_call_157 : decode cL_call 157 = .ok (.ireturn, 1) := by decide +kernel
theorem dL_call_158 : decode cL_call 158 = .ok (.aload_n 0, 1) := by decide +kernel
theorem dL_call_159 : decode cL_call 159 = .ok (.iload_n 2, 1) := by decide +kernel
theorem dL_call_160 : decode cL_call 160 = .ok (.invokestatic 127, 3) := by decide +kernel
theorem dL_call_163 : decode cL_call 163 = .ok (.ireturn, 1) := by decide +kernel
theorem dL_call_164 : decode cL_call 164 = .ok (.aload_n 0, 1) := by decide +kernel
theorem dL_call_165 : decode cL_call 165 = .ok (.iload_n 2, 1) := by decide +kernel
theorem dL_call_166 : decode cL_call 166 = .ok (.invokestatic 130, 3) := by decide +kernel
theorem dL_call_169 : decode cL_call 169 = .ok (.ireturn, 1) := by decide +kernel
theorem dL_call_170 : decode cL_call 170 = .ok (.aload_n 0, 1) := by decide +kernel
theorem dL_call_171 : decode cL_call 171 = .ok (.iload_n 2, 1) := by decide +kernel
theorem dL_call_172 : decode cL_call 172 = .ok (.invokestatic 133, 3) := by decide +kernel
theorem dL_call_175 : decode cL_call 175 = .ok (.ireturn, 1) := by decide +kernel
theorem dL_cell_0 : decode cL_cell 0 = .ok (.iload_n 1, 1) := by decide +kernel
theorem dL_cell_1 : decode cL_cell 1 = .ok (.aload_n 0, 1) := by decide +kernel
theorem dL_cell_2 : decode cL_cell 2 = .ok (.arraylength, 1) := by decide +kernel
theorem dL_cell_3 : decode cL_cell 3 = .ok (.if_icmp .ge 9, 3) := by decide +kernel
theorem dL_cell_6 : decode cL_cell 6 = .ok (.aload_n 0, 1) := by decide +kernel
theorem dL_cell_7 : decode cL_cell 7 = .ok (.iload_n 1, 1) := by decide +kernel
theorem dL_cell_8 : decode cL_cell 8 = .ok (.iaload, 1) := by decide +kernel
theorem dL_cell_9 : decode cL_cell 9 = .ok (.goto 13, 3) := by decide +kernel
theorem dL_cell_12 : decode cL_cell 12 = .ok (.ldc 136, 2) := by decide +kernel
theorem dL_cell_14 : decode cL_cell 14 = .ok (.iload_n 1, 1) := by decide +kernel
theorem dL_cell_15 : decode cL_cell 15 = .ok (.iconst 3, 1) := by decide +kernel
theorem dL_cell_16 : decode cL_cell 16 = .ok (.iadd, 1) := by decide +kernel
theorem dL_cell_17 : decode cL_cell 17 = .ok (.imul, 1) := by decide +kernel
theorem dL_cell_18 : decode cL_cell 18 = .ok (.sipush 12041, 3) := by decide +kernel
theorem dL_cell_21 : decode cL_cell 21 = .ok (.iadd, 1) := by decide +kernel
theorem dL_cell_22 : decode cL_cell 22 = .ok (.ldc 137, 2) := by decide +kernel
theorem dL_cell_24 : decode cL_cell 24 = .ok (.iand, 1) := by decide +kernel
theorem dL_cell_25 : decode cL_cell 25 = .ok (.ireturn, 1) := by decide +kernel
theorem dL_thrown_0 : decode cL_thrown 0 = .ok (.iload_n 0, 1) := by decide +kernel
theorem dL_thrown_1 : decode cL_thrown 1 = .ok (.ldc 15, 2) := by decide +kernel
theorem dL_thrown_3 : decode cL_thrown 3 = .ok (.if_icmp .eq 15, 3) := by decide +kernel
theorem dL_thrown_6 : decode cL_thrown 6 = .ok (.iload_n 0, 1) := by decide +kernel
theorem dL_thrown_7 : decode cL_thrown 7 = .ok (.ldc 18, 2) := by decide +kernel
theorem dL_thrown_9 : decode cL_thrown 9 = .ok (.if_icmp .eq 9, 3) := by decide +kernel
theorem dL_thrown_12 : decode cL_thrown 12 = .ok (.iload_n 0, 1) := by decide +kernel
theorem dL_thrown_13 : decode cL_thrown 13 = .ok (.ldc 21, 2) := by decide +kernel
theorem dL_thrown_15 : decode cL_thrown 15 = .ok (.if_icmp .ne 7, 3) := by decide +kernel
theorem dL_thrown_18 : decode cL_thrown 18 = .ok (.iconst 1, 1) := by decide +kernel
theorem dL_thrown_19 : decode cL_thrown 19 = .ok (.goto 4, 3) := by decide +kernel
theorem dL_thrown_22 : decode cL_thrown 22 = .ok (.iconst 0, 1) := by decide +kernel
theorem dL_thrown_23 : decode cL_thrown 23 = .ok (.ireturn, 1) := by decide +kernel
theorem dL_refuses_0 : decode cL_refuses 0 = .ok (.aload_n 0, 1) := by decide +kernel
theorem dL_refuses_1 : decode cL_refuses 1 = .ok (.iconst 2, 1) := by decide +kernel
theorem dL_refuses_2 : decode cL_refuses 2 = .ok (.iconst 0, 1) := by decide +kernel
theorem dL_refuses_3 : decode cL_refuses 3 = .ok (.iconst 0, 1) := by decide +kernel
theorem dL_refuses_4 : decode cL_refuses 4 = .ok (.iconst 0, 1) := by decide +kernel
theorem dL_refuses_5 : decode cL_refuses 5 = .ok (.invokestatic 138, 3) := by decide +kernel
theorem dL_refuses_8 : decode cL_refuses 8 = .ok (.istore_n 2, 1) := by decide +kernel
theorem dL_refuses_9 : decode cL_refuses 9 = .ok (.iload_n 1, 1) := by decide +kernel
theorem dL_refuses_10 : decode cL_refuses 10 = .ok (.iconst 2, 1) := by decide +kernel
theorem dL_refuses_11 : decode cL_refuses 11 = .ok (.irem, 1) := by decide +kernel
theorem dL_refuses_12 : decode cL_refuses 12 = .ok (.ifCond .ne 12, 3) := by decide +kernel
theorem dL_refuses_15 : decode cL_refuses 15 = .ok (.iconst (-1), 1) := by decide +kernel
theorem dL_refuses_16 : decode cL_refuses 16 = .ok (.iload_n 1, 1) := by decide +kernel
theorem dL_refuses_17 : decode cL_refuses 17 = .ok (.bipush 99, 2) := by decide +kernel
theorem dL_refuses_19 : decode cL_refuses 19 = .ok (.irem, 1) := by decide +kernel
theorem dL_refuses_20 : decode cL_refuses 20 = .ok (.isub, 1) := by decide +kernel
theorem dL_refuses_21 : decode cL_refuses 21 = .ok (.goto 9, 3) := by decide +kernel
theorem dL_refuses_24 : decode cL_refuses 24 = .ok (.iload_n 2, 1) := by decide +kernel
theorem dL_refuses_25 : decode cL_refuses 25 = .ok (.iload_n 1, 1) := by decide +kernel
theorem dL_refuses_26 : decode cL_refuses 26 = .ok (.bipush 99, 2) := by decide +kernel
theorem dL_refuses_28 : decode cL_refuses 28 = .ok (.irem, 1) := by decide +kernel
theorem dL_refuses_29 : decode cL_refuses 29 = .ok (.iadd, 1) := by decide +kernel
theorem dL_refuses_30 : decode cL_refuses 30 = .ok (.istore_n 3, 1) := by decide +kernel
theorem dL_refuses_31 : decode cL_refuses 31 = .ok (.iload_n 1, 1) := by decide +kernel
theorem dL_refuses_32 : decode cL_refuses 32 = .ok (.iconst 2, 1) := by decide +kernel
theorem dL_refuses_33 : decode cL_refuses 33 = .ok (.irem, 1) := by decide +kernel
theorem dL_refuses_34 : decode cL_refuses 34 = .ok (.ifCond .ne 12, 3) := by decide +kernel
theorem dL_refuses_37 : decode cL_refuses 37 = .ok (.iconst (-1), 1) := by decide +kernel
theorem dL_refuses_38 : decode cL_refuses 38 = .ok (.iload_n 1, 1) := by decide +kernel
theorem dL_refuses_39 : decode cL_refuses 39 = .ok (.bipush 99, 2) := by decide +kernel
theorem dL_refuses_41 : decode cL_refuses 41 = .ok (.irem, 1) := by decide +kernel
theorem dL_refuses_42 : decode cL_refuses 42 = .ok (.isub, 1) := by decide +kernel
theorem dL_refuses_43 : decode cL_refuses 43 = .ok (.goto 10, 3) := by decide +kernel
theorem dL_refuses_46 : decode cL_refuses 46 = .ok (.bipush 7, 2) := by decide +kernel
theorem dL_refuses_48 : decode cL_refuses 48 = .ok (.iload_n 1, 1) := by decide +kernel
theorem dL_refuses_49 : decode cL_refuses 49 = .ok (.bipush 99, 2) := by decide +kernel
theorem dL_refuses_51 : decode cL_refuses 51 = .ok (.irem, 1) := by decide +kernel
theorem dL_refuses_52 : decode cL_refuses 52 = .ok (.iadd, 1) := by decide +kernel
theorem dL_refuses_53 : decode cL_refuses 53 = .ok (.istore 4, 2) := by decide +kernel
theorem dL_refuses_55 : decode cL_refuses 55 = .ok (.aload_n 0, 1) := by decide +kernel
theorem dL_refuses_56 : decode cL_refuses 56 = .ok (.iconst 0, 1) := by decide +kernel
theorem dL_refuses_57 : decode cL_refuses 57 = .ok (.iload_n 1, 1) := by decide +kernel
theorem dL_refuses_58 : decode cL_refuses 58 = .ok (.iconst 2, 1) := by decide +kernel
theorem dL_refuses_59 : decode cL_refuses 59 = .ok (.irem, 1) := by decide +kernel
theorem dL_refuses_60 : decode cL_refuses 60 = .ok (.ifCond .ne 12, 3) := by decide +kernel
theorem dL_refuses_63 : decode cL_refuses 63 = .ok (.iconst (-1), 1) := by decide +kernel
theorem dL_refuses_64 : decode cL_refuses 64 = .ok (.iload_n 1, 1) := by decide +kernel
theorem dL_refuses_65 : decode cL_refuses 65 = .ok (.bipush 9, 2) := by decide +kernel
theorem dL_refuses_67 : decode cL_refuses 67 = .ok (.irem, 1) := by decide +kernel
theorem dL_refuses_68 : decode cL_refuses 68 = .ok (.isub, 1) := by decide +kernel
theorem dL_refuses_69 : decode cL_refuses 69 = .ok (.goto 11, 3) := by decide +kernel
theorem dL_refuses_72 : decode cL_refuses 72 = .ok (.sipush 256, 3) := by decide +kernel
theorem dL_refuses_75 : decode cL_refuses 75 = .ok (.iload_n 1, 1) := by decide +kernel
theorem dL_refuses_76 : decode cL_refuses 76 = .ok (.bipush 9, 2) := by decide +kernel
theorem dL_refuses_78 : decode cL_refuses 78 = .ok (.irem, 1) := by decide +kernel
theorem dL_refuses_79 : decode cL_refuses 79 = .ok (.iadd, 1) := by decide +kernel
theorem dL_refuses_80 : decode cL_refuses 80 = .ok (.iconst 0, 1) := by decide +kernel
theorem dL_refuses_81 : decode cL_refuses 81 = .ok (.iconst 0, 1) := by decide +kernel
theorem dL_refuses_82 : decode cL_refuses 82 = .ok (.invokestatic 138, 3) := by decide +kernel
theorem dL_refuses_85 : decode cL_refuses 85 = .ok (.ldc 18, 2) := by decide +kernel
theorem dL_refuses_87 : decode cL_refuses 87 = .ok (.if_icmp .ne 514, 3) := by decide +kernel
theorem dL_refuses_90 : decode cL_refuses 90 = .ok (.aload_n 0, 1) := by decide +kernel
theorem dL_refuses_91 : decode cL_refuses 91 = .ok (.iconst 2, 1) := by decide +kernel
theorem dL_refuses_92 : decode cL_refuses 92 = .ok (.bipush 12, 2) := by decide +kernel
theorem dL_refuses_94 : decode cL_refuses 94 = .ok (.iload_n 1, 1) := by decide +kernel
theorem dL_refuses_95 : decode cL_refuses 95 = .ok (.bipush 50, 2) := by decide +kernel
theorem dL_refuses_97 : decode cL_refuses 97 = .ok (.irem, 1) := by decide +kernel
theorem dL_refuses_98 : decode cL_refuses 98 = .ok (.iadd, 1) := by decide +kernel
theorem dL_refuses_99 : decode cL_refuses 99 = .ok (.iconst 0, 1) := by decide +kernel
theorem dL_refuses_100 : decode cL_refuses 100 = .ok (.iconst 0, 1) := by decide +kernel
theorem dL_refuses_101 : decode cL_refuses 101 = .ok (.invokestatic 138, 3) := by decide +kernel
theorem dL_refuses_104 : decode cL_refuses 104 = .ok (.ldc 18, 2) := by decide +kernel
theorem dL_refuses_106 : decode cL_refuses 106 = .ok (.if_icmp .ne 495, 3) := by decide +kernel
theorem dL_refuses_109 : decode cL_refuses 109 = .ok (.aload_n 0, 1) := by decide +kernel
theorem dL_refuses_110 : decode cL_refuses 110 = .ok (.iconst 3, 1) := by decide +kernel
theorem dL_refuses_111 : decode cL_refuses 111 = .ok (.iload_n 3, 1) := by decide +kernel
theorem dL_refuses_112 : decode cL_refuses 112 = .ok (.bipush 99, 2) := by decide +kernel
theorem dL_refuses_114 : decode cL_refuses 114 = .ok (.iconst 0, 1) := by decide +kernel
theorem dL_refuses_115 : decode cL_refuses 115 = .ok (.invokestatic 138, 3) := by decide +kernel
theorem dL_refuses_118 : decode cL_refuses 118 = .ok (.ldc 15, 2) := by decide +kernel
theorem dL_refuses_120 : decode cL_refuses 120 = .ok (.if_icmp .ne 481, 3) := by decide +kernel
theorem dL_refuses_123 : decode cL_refuses 123 = .ok (.aload_n 0, 1) := by decide +kernel
theorem dL_refuses_124 : decode cL_refuses 124 = .ok (.iconst 3, 1) := by decide +kernel
theorem dL_refuses_125 : decode cL_refuses 125 = .ok (.iconst 0, 1) := by decide +kernel
theorem dL_refuses_126 : decode cL_refuses 126 = .ok (.bipush 8, 2) := by decide +kernel
theorem dL_refuses_128 : decode cL_refuses 128 = .ok (.iload_n 1, 1) := by decide +kernel
theorem dL_refuses_129 : decode cL_refuses 129 = .ok (.bipush 9, 2) := by decide +kernel
theorem dL_refuses_131 : decode cL_refuses 131 = .ok (.irem, 1) := by decide +kernel
theorem dL_refuses_132 : decode cL_refuses 132 = .ok (.iadd, 1) := by decide +kernel
theorem dL_refuses_133 : decode cL_refuses 133 = .ok (.iconst 0, 1) := by decide +kernel
theorem dL_refuses_134 : decode cL_refuses 134 = .ok (.invokestatic 138, 3) := by decide +kernel
theorem dL_refuses_137 : decode cL_refuses 137 = .ok (.ldc 18, 2) := by decide +kernel
theorem dL_refuses_139 : decode cL_refuses 139 = .ok (.if_icmp .ne 462, 3) := by decide +kernel
theorem dL_refuses_142 : decode cL_refuses 142 = .ok (.aload_n 0, 1) := by decide +kernel
theorem dL_refuses_143 : decode cL_refuses 143 = .ok (.iconst 4, 1) := by decide +kernel
theorem dL_refuses_144 : decode cL_refuses 144 = .ok (.iload 4, 2) := by decide +kernel
theorem dL_refuses_146 : decode cL_refuses 146 = .ok (.bipush 9, 2) := by decide +kernel
theorem dL_refuses_148 : decode cL_refuses 148 = .ok (.iconst 0, 1) := by decide +kernel
theorem dL_refuses_149 : decode cL_refuses 149 = .ok (.invokestatic 138, 3) := by decide +kernel
theorem dL_refuses_152 : decode cL_refuses 152 = .ok (.ldc 15, 2) := by decide +kernel
theorem dL_refuses_154 : decode cL_refuses 154 = .ok (.if_icmp .ne 447, 3) := by decide +kernel
theorem dL_refuses_157 : decode cL_refuses 157 = .ok (.aload_n 0, 1) := by decide +kernel
theorem dL_refuses_158 : decode cL_refuses 158 = .ok (.iconst 4, 1) := by decide +kernel
theorem dL_refuses_159 : decode cL_refuses 159 = .ok (.iconst 0, 1) := by decide +kernel
theorem dL_refuses_160 : decode cL_refuses 160 = .ok (.iconst 3, 1) := by decide +kernel
theorem dL_refuses_161 : decode cL_refuses 161 = .ok (.iload_n 1, 1) := by decide +kernel
theorem dL_refuses_162 : decode cL_refuses 162 = .ok (.bipush 9, 2) := by decide +kernel
theorem dL_refuses_164 : decode cL_refuses 164 = .ok (.irem, 1) := by decide +kernel
theorem dL_refuses_165 : decode cL_refuses 165 = .ok (.iadd, 1) := by decide +kernel
theorem dL_refuses_166 : decode cL_refuses 166 = .ok (.iconst 0, 1) := by decide +kernel
theorem dL_refuses_167 : decode cL_refuses 167 = .ok (.invokestatic 138, 3) := by decide +kernel
theorem dL_refuses_170 : decode cL_refuses 170 = .ok (.ldc 18, 2) := by decide +kernel
theorem dL_refuses_172 : decode cL_refuses 172 = .ok (.if_icmp .ne 429, 3) := by decide +kernel
theorem dL_refuses_175 : decode cL_refuses 175 = .ok (.aload_n 0, 1) := by decide +kernel
theorem dL_refuses_176 : decode cL_refuses 176 = .ok (.iconst 5, 1) := by decide +kernel
theorem dL_refuses_177 : decode cL_refuses 177 = .ok (.iconst 3, 1) := by decide +kernel
theorem dL_refuses_178 : decode cL_refuses 178 = .ok (.iload_n 1, 1) := by decide +kernel
theorem dL_refuses_179 : decode cL_refuses 179 = .ok (.bipush 9, 2) := by decide +kernel
theorem dL_refuses_181 : decode cL_refuses 181 = .ok (.irem, 1) := by decide +kernel
theorem dL_refuses_182 : decode cL_refuses 182 = .ok (.iadd, 1) := by decide +kernel
theorem dL_refuses_183 : decode cL_refuses 183 = .ok (.iconst 0, 1) := by decide +kernel
theorem dL_refuses_184 : decode cL_refuses 184 = .ok (.iconst 0, 1) := by decide +kernel
theorem dL_refuses_185 : decode cL_refuses 185 = .ok (.invokestatic 138, 3) := by decide +kernel
theorem dL_refuses_188 : decode cL_refuses 188 = .ok (.ldc 18, 2) := by decide +kernel
theorem dL_refuses_190 : decode cL_refuses 190 = .ok (.if_icmp .ne 411, 3) := by decide +kernel
theorem dL_refuses_193 : decode cL_refuses 193 = .ok (.aload_n 0, 1) := by decide +kernel
theorem dL_refuses_194 : decode cL_refuses 194 = .ok (.iload 4, 2) := by decide +kernel
theorem dL_refuses_196 : decode cL_refuses 196 = .ok (.iconst 0, 1) := by decide +kernel
theorem dL_refuses_197 : decode cL_refuses 197 = .ok (.iconst 0, 1) := by decide +kernel
theorem dL_refuses_198 : decode cL_refuses 198 = .ok (.bipush 9, 2) := by decide +kernel
theorem dL_refuses_200 : decode cL_refuses 200 = .ok (.invokestatic 142, 3) := by decide +kernel
theorem dL_refuses_203 : decode cL_refuses 203 = .ok (.ldc 15, 2) := by decide +kernel
theorem dL_refuses_205 : decode cL_refuses 205 = .ok (.if_icmp .ne 396, 3) := by decide +kernel
theorem dL_refuses_208 : decode cL_refuses 208 = .ok (.aload_n 0, 1) := by decide +kernel
theorem dL_refuses_209 : decode cL_refuses 209 = .ok (.iconst 0, 1) := by decide +kernel
theorem dL_refuses_210 : decode cL_refuses 210 = .ok (.iload 4, 2) := by decide +kernel
theorem dL_refuses_212 : decode cL_refuses 212 = .ok (.iconst 0, 1) := by decide +kernel
theorem dL_refuses_213 : decode cL_refuses 213 = .ok (.bipush 9, 2) := by decide +kernel
theorem dL_refuses_215 : decode cL_refuses 215 = .ok (.invokestatic 142, 3) := by decide +kernel
theorem dL_refuses_218 : decode cL_refuses 218 = .ok (.ldc 15, 2) := by decide +kernel
theorem dL_refuses_220 : decode cL_refuses 220 = .ok (.if_icmp .ne 381, 3) := by decide +kernel
theorem dL_refuses_223 : decode cL_refuses 223 = .ok (.aload_n 0, 1) := by decide +kernel
theorem dL_refuses_224 : decode cL_refuses 224 = .ok (.iconst 0, 1) := by decide +kernel
theorem dL_refuses_225 : decode cL_refuses 225 = .ok (.iconst 0, 1) := by decide +kernel
theorem dL_refuses_226 : decode cL_refuses 226 = .ok (.iload 4, 2) := by decide +kernel
theorem dL_refuses_228 : decode cL_refuses 228 = .ok (.bipush 9, 2) := by decide +kernel
theorem dL_refuses_230 : decode cL_refuses 230 = .ok (.invokestatic 142, 3) := by decide +kernel
theorem dL_refuses_233 : decode cL_refuses 233 = .ok (.ldc 15, 2) := by decide +kernel
theorem dL_refuses_235 : decode cL_refuses 235 = .ok (.if_icmp .ne 366, 3) := by decide +kernel
theorem dL_refuses_238 : decode cL_refuses 238 = .ok (.aload_n 0, 1) := by decide +kernel
theorem dL_refuses_239 : decode cL_refuses 239 = .ok (.iconst 0, 1) := by decide +kernel
theorem dL_refuses_240 : decode cL_refuses 240 = .ok (.iconst 0, 1) := by decide +kernel
theorem dL_refuses_241 : decode cL_refuses 241 = .ok (.iconst 0, 1) := by decide +kernel
theorem dL_refuses_242 : decode cL_refuses 242 = .ok (.iload_n 1, 1) := by decide +kernel
theorem dL_refuses_243 : decode cL_refuses 243 = .ok (.iconst 2, 1) := by decide +kernel
theorem dL_refuses_244 : decode cL_refuses 244 = .ok (.irem, 1) := by decide +kernel
theorem dL_refuses_245 : decode cL_refuses 245 = .ok (.ifCond .ne 7, 3) := by decide +kernel
theorem dL_refuses_248 : decode cL_refuses 248 = .ok (.iconst 0, 1) := by decide +kernel
theorem dL_refuses_249 : decode cL_refuses 249 = .ok (.goto 9, 3) := by decide +kernel
theorem dL_refuses_252 : decode cL_refuses 252 = .ok (.iconst 5, 1) := by decide +kernel
theorem dL_refuses_253 : decode cL_refuses 253 = .ok (.iload_n 1, 1) := by decide +kernel
theorem dL_refuses_254 : decode cL_refuses 254 = .ok (.bipush 9, 2) := by decide +kernel
theorem dL_refuses_256 : decode cL_refuses 256 = .ok (.irem, 1) := by decide +kernel
theorem dL_refuses_257 : decode cL_refuses 257 = .ok (.iadd, 1) := by decide +kernel
theorem dL_refuses_258 : decode cL_refuses 258 = .ok (.invokestatic 142, 3) := by decide +kernel
theorem dL_refuses_261 : decode cL_refuses 261 = .ok (.ldc 18, 2) := by decide +kernel
theorem dL_refuses_263 : decode cL_refuses 263 = .ok (.if_icmp .ne 338, 3) := by decide +kernel
theorem dL_refuses_266 : decode cL_refuses 266 = .ok (.aload_n 0, 1) := by decide +kernel
theorem dL_refuses_267 : decode cL_refuses 267 = .ok (.bipush 6, 2) := by decide +kernel
theorem dL_refuses_269 : decode cL_refuses 269 = .ok (.iload_n 3, 1) := by decide +kernel
theorem dL_refuses_270 : decode cL_refuses 270 = .ok (.iconst 0, 1) := by decide +kernel
theorem dL_refuses_271 : decode cL_refuses 271 = .ok (.iconst 0, 1) := by decide +kernel
theorem dL_refuses_272 : decode cL_refuses 272 = .ok (.invokestatic 138, 3) := by decide +kernel
theorem dL_refuses_275 : decode cL_refuses 275 = .ok (.ldc 15, 2) := by decide +kernel
theorem dL_refuses_277 : decode cL_refuses 277 = .ok (.if_icmp .ne 324, 3) := by decide +kernel
theorem dL_refuses_280 : decode cL_refuses 280 = .ok (.aload_n 0, 1) := by decide +kernel
theorem dL_refuses_281 : decode cL_refuses 281 = .ok (.bipush 7, 2) := by decide +kernel
theorem dL_refuses_283 : decode cL_refuses 283 = .ok (.iload_n 3, 1) := by decide +kernel
theorem dL_refuses_284 : decode cL_refuses 284 = .ok (.iconst 0, 1) := by decide +kernel
theorem dL_refuses_285 : decode cL_refuses 285 = .ok (.iconst 0, 1) := by decide +kernel
theorem dL_refuses_286 : decode cL_refuses 286 = .ok (.invokestatic 138, 3) := by decide +kernel
theorem dL_refuses_289 : decode cL_refuses 289 = .ok (.ldc 15, 2) := by decide +kernel
theorem dL_refuses_291 : decode cL_refuses 291 = .ok (.if_icmp .ne 310, 3) := by decide +kernel
theorem dL_refuses_294 : decode cL_refuses 294 = .ok (.aload_n 0, 1) := by decide +kernel
theorem dL_refuses_295 : decode cL_refuses 295 = .ok (.bipush 8, 2) := by decide +kernel
theorem dL_refuses_297 : decode cL_refuses 297 = .ok (.iconst 0, 1) := by decide +kernel
theorem dL_refuses_298 : decode cL_refuses 298 = .ok (.iload_n 1, 1) := by decide +kernel
theorem dL_refuses_299 : decode cL_refuses 299 = .ok (.iconst 2, 1) := by decide +kernel
theorem dL_refuses_300 : decode cL_refuses 300 = .ok (.irem, 1) := by decide +kernel
theorem dL_refuses_301 : decode cL_refuses 301 = .ok (.ifCond .ne 7, 3) := by decide +kernel
theorem dL_refuses_304 : decode cL_refuses 304 = .ok (.iconst 3, 1) := by decide +kernel
theorem dL_refuses_305 : decode cL_refuses 305 = .ok (.goto 10, 3) := by decide +kernel
theorem dL_refuses_308 : decode cL_refuses 308 = .ok (.bipush 17, 2) := by decide +kernel
theorem dL_refuses_310 : decode cL_refuses 310 = .ok (.iload_n 1, 1) := by decide +kernel
theorem dL_refuses_311 : decode cL_refuses 311 = .ok (.bipush 9, 2) := by decide +kernel
theorem dL_refuses_313 : decode cL_refuses 313 = .ok (.irem, 1) := by decide +kernel
theorem dL_refuses_314 : decode cL_refuses 314 = .ok (.iadd, 1) := by decide +kernel
theorem dL_refuses_315 : decode cL_refuses 315 = .ok (.iconst 0, 1) := by decide +kernel
theorem dL_refuses_316 : decode cL_refuses 316 = .ok (.invokestatic 138, 3) := by decide +kernel
theorem dL_refuses_319 : decode cL_refuses 319 = .ok (.ldc 18, 2) := by decide +kernel
theorem dL_refuses_321 : decode cL_refuses 321 = .ok (.if_icmp .ne 280, 3) := by decide +kernel
theorem dL_refuses_324 : decode cL_refuses 324 = .ok (.aload_n 0, 1) := by decide +kernel
theorem dL_refuses_325 : decode cL_refuses 325 = .ok (.bipush 8, 2) := by decide +kernel
theorem dL_refuses_327 : decode cL_refuses 327 = .ok (.iconst 1, 1) := by decide +kernel
theorem dL_refuses_328 : decode cL_refuses 328 = .ok (.iload_n 1, 1) := by decide +kernel
theorem dL_refuses_329 : decode cL_refuses 329 = .ok (.iconst 2, 1) := by decide +kernel
theorem dL_refuses_330 : decode cL_refuses 330 = .ok (.irem, 1) := by decide +kernel
theorem dL_refuses_331 : decode cL_refuses 331 = .ok (.iadd, 1) := by decide +kernel
theorem dL_refuses_332 : decode cL_refuses 332 = .ok (.iload_n 1, 1) := by decide +kernel
theorem dL_refuses_333 : decode cL_refuses 333 = .ok (.iconst 4, 1) := by decide +kernel
theorem dL_refuses_334 : decode cL_refuses 334 = .ok (.irem, 1) := by decide +kernel
theorem dL_refuses_335 : decode cL_refuses 335 = .ok (.iconst 2, 1) := by decide +kernel
theorem dL_refuses_336 : decode cL_refuses 336 = .ok (.if_icmp .ge 7, 3) := by decide +kernel
theorem dL_refuses_339 : decode cL_refuses 339 = .ok (.iconst 0, 1) := by decide +kernel
theorem dL_refuses_340 : decode cL_refuses 340 = .ok (.goto 10, 3) := by decide +kernel
theorem dL_refuses_343 : decode cL_refuses 343 = .ok (.bipush 10, 2) := by decide +kernel
theorem dL_refuses_345 : decode cL_refuses 345 = .ok (.iload_n 1, 1) := by decide +kernel
theorem dL_refuses_346 : decode cL_refuses 346 = .ok (.bipush 9, 2) := by decide +kernel
theorem dL_refuses_348 : decode cL_refuses 348 = .ok (.irem, 1) := by decide +kernel
theorem dL_refuses_349 : decode cL_refuses 349 = .ok (.iadd, 1) := by decide +kernel
theorem dL_refuses_350 : decode cL_refuses 350 = .ok (.iconst 0, 1) := by decide +kernel
theorem dL_refuses_351 : decode cL_refuses 351 = .ok (.invokestatic 138, 3) := by decide +kernel
theorem dL_refuses_354 : decode cL_refuses 354 = .ok (.ldc 18, 2) := by decide +kernel
theorem dL_refuses_356 : decode cL_refuses 356 = .ok (.if_icmp .ne 245, 3) := by decide +kernel
theorem dL_refuses_359 : decode cL_refuses 359 = .ok (.aload_n 0, 1) := by decide +kernel
theorem dL_refuses_360 : decode cL_refuses 360 = .ok (.bipush 8, 2) := by decide +kernel
theorem dL_refuses_362 : decode cL_refuses 362 = .ok (.iconst 3, 1) := by decide +kernel
theorem dL_refuses_363 : decode cL_refuses 363 = .ok (.iload_n 1, 1) := by decide +kernel
theorem dL_refuses_364 : decode cL_refuses 364 = .ok (.bipush 9, 2) := by decide +kernel
theorem dL_refuses_366 : decode cL_refuses 366 = .ok (.irem, 1) := by decide +kernel
theorem dL_refuses_367 : decode cL_refuses 367 = .ok (.iadd, 1) := by decide +kernel
theorem dL_refuses_368 : decode cL_refuses 368 = .ok (.iconst 5, 1) := by decide +kernel
theorem dL_refuses_369 : decode cL_refuses 369 = .ok (.iconst 0, 1) := by decide +kernel
theorem dL_refuses_370 : decode cL_refuses 370 = .ok (.invokestatic 138, 3) := by decide +kernel
theorem dL_refuses_373 : decode cL_refuses 373 = .ok (.ldc 18, 2) := by decide +kernel
theorem dL_refuses_375 : decode cL_refuses 375 = .ok (.if_icmp .ne 226, 3) := by decide +kernel
theorem dL_refuses_378 : decode cL_refuses 378 = .ok (.aload_n 0, 1) := by decide +kernel
theorem dL_refuses_379 : decode cL_refuses 379 = .ok (.bipush 10, 2) := by decide +kernel
theorem dL_refuses_381 : decode cL_refuses 381 = .ok (.iload_n 3, 1) := by decide +kernel
theorem dL_refuses_382 : decode cL_refuses 382 = .ok (.iconst 0, 1) := by decide +kernel
theorem dL_refuses_383 : decode cL_refuses 383 = .ok (.iconst 0, 1) := by decide +kernel
theorem dL_refuses_384 : decode cL_refuses 384 = .ok (.invokestatic 138, 3) := by decide +kernel
theorem dL_refuses_387 : decode cL_refuses 387 = .ok (.ldc 15, 2) := by decide +kernel
theorem dL_refuses_389 : decode cL_refuses 389 = .ok (.if_icmp .ne 212, 3) := by decide +kernel
theorem dL_refuses_392 : decode cL_refuses 392 = .ok (.aload_n 0, 1) := by decide +kernel
theorem dL_refuses_393 : decode cL_refuses 393 = .ok (.bipush 11, 2) := by decide +kernel
theorem dL_refuses_395 : decode cL_refuses 395 = .ok (.iload_n 1, 1) := by decide +kernel
theorem dL_refuses_396 : decode cL_refuses 396 = .ok (.iconst 2, 1) := by decide +kernel
theorem dL_refuses_397 : decode cL_refuses 397 = .ok (.irem, 1) := by decide +kernel
theorem dL_refuses_398 : decode cL_refuses 398 = .ok (.ifCond .ne 7, 3) := by decide +kernel
theorem dL_refuses_401 : decode cL_refuses 401 = .ok (.iconst (-1), 1) := by decide +kernel
theorem dL_refuses_402 : decode cL_refuses 402 = .ok (.goto 9, 3) := by decide +kernel
theorem dL_refuses_405 : decode cL_refuses 405 = .ok (.iconst 2, 1) := by decide +kernel
theorem dL_refuses_406 : decode cL_refuses 406 = .ok (.iload_n 1, 1) := by decide +kernel
theorem dL_refuses_407 : decode cL_refuses 407 = .ok (.bipush 9, 2) := by decide +kernel
theorem dL_refuses_409 : decode cL_refuses 409 = .ok (.irem, 1) := by decide +kernel
theorem dL_refuses_410 : decode cL_refuses 410 = .ok (.iadd, 1) := by decide +kernel
theorem dL_refuses_411 : decode cL_refuses 411 = .ok (.iconst 0, 1) := by decide +kernel
theorem dL_refuses_412 : decode cL_refuses 412 = .ok (.iconst 0, 1) := by decide +kernel
theorem dL_refuses_413 : decode cL_refuses 413 = .ok (.invokestatic 138, 3) := by decide +kernel
theorem dL_refuses_416 : decode cL_refuses 416 = .ok (.ldc 18, 2) := by decide +kernel
theorem dL_refuses_418 : decode cL_refuses 418 = .ok (.if_icmp .ne 183, 3) := by decide +kernel
theorem dL_refuses_421 : decode cL_refuses 421 = .ok (.aload_n 0, 1) := by decide +kernel
theorem dL_refuses_422 : decode cL_refuses 422 = .ok (.bipush 12, 2) := by decide +kernel
theorem dL_refuses_424 : decode cL_refuses 424 = .ok (.iload_n 1, 1) := by decide +kernel
theorem dL_refuses_425 : decode cL_refuses 425 = .ok (.iconst 2, 1) := by decide +kernel
theorem dL_refuses_426 : decode cL_refuses 426 = .ok (.irem, 1) := by decide +kernel
theorem dL_refuses_427 : decode cL_refuses 427 = .ok (.ifCond .ne 7, 3) := by decide +kernel
theorem dL_refuses_430 : decode cL_refuses 430 = .ok (.iconst 0, 1) := by decide +kernel
theorem dL_refuses_431 : decode cL_refuses 431 = .ok (.goto 10, 3) := by decide +kernel
theorem dL_refuses_434 : decode cL_refuses 434 = .ok (.bipush 6, 2) := by decide +kernel
theorem dL_refuses_436 : decode cL_refuses 436 = .ok (.iload_n 1, 1) := by decide +kernel
theorem dL_refuses_437 : decode cL_refuses 437 = .ok (.bipush 9, 2) := by decide +kernel
theorem dL_refuses_439 : decode cL_refuses 439 = .ok (.irem, 1) := by decide +kernel
theorem dL_refuses_440 : decode cL_refuses 440 = .ok (.iadd, 1) := by decide +kernel
theorem dL_refuses_441 : decode cL_refuses 441 = .ok (.iconst 0, 1) := by decide +kernel
theorem dL_refuses_442 : decode cL_refuses 442 = .ok (.iconst 0, 1) := by decide +kernel
theorem dL_refuses_443 : decode cL_refuses 443 = .ok (.invokestatic 138, 3) := by decide +kernel
theorem dL_refuses_446 : decode cL_refuses 446 = .ok (.ldc 18, 2) := by decide +kernel
theorem dL_refuses_448 : decode cL_refuses 448 = .ok (.if_icmp .ne 153, 3) := by decide +kernel
theorem dL_refuses_451 : decode cL_refuses 451 = .ok (.aload_n 0, 1) := by decide +kernel
theorem dL_refuses_452 : decode cL_refuses 452 = .ok (.bipush 12, 2) := by decide +kernel
theorem dL_refuses_454 : decode cL_refuses 454 = .ok (.iconst 2, 1) := by decide +kernel
theorem dL_refuses_455 : decode cL_refuses 455 = .ok (.iload_n 1, 1) := by decide +kernel
theorem dL_refuses_456 : decode cL_refuses 456 = .ok (.iconst 2, 1) := by decide +kernel
theorem dL_refuses_457 : decode cL_refuses 457 = .ok (.irem, 1) := by decide +kernel
theorem dL_refuses_458 : decode cL_refuses 458 = .ok (.ifCond .ne 7, 3) := by decide +kernel
theorem dL_refuses_461 : decode cL_refuses 461 = .ok (.iconst (-1), 1) := by decide +kernel
theorem dL_refuses_462 : decode cL_refuses 462 = .ok (.goto 10, 3) := by decide +kernel
theorem dL_refuses_465 : decode cL_refuses 465 = .ok (.bipush 100, 2) := by decide +kernel
theorem dL_refuses_467 : decode cL_refuses 467 = .ok (.iload_n 1, 1) := by decide +kernel
theorem dL_refuses_468 : decode cL_refuses 468 = .ok (.bipush 99, 2) := by decide +kernel
theorem dL_refuses_470 : decode cL_refuses 470 = .ok (.irem, 1) := by decide +kernel
theorem dL_refuses_471 : decode cL_refuses 471 = .ok (.iadd, 1) := by decide +kernel
theorem dL_refuses_472 : decode cL_refuses 472 = .ok (.iconst 0, 1) := by decide +kernel
theorem dL_refuses_473 : decode cL_refuses 473 = .ok (.invokestatic 138, 3) := by decide +kernel
theorem dL_refuses_476 : decode cL_refuses 476 = .ok (.ldc 18, 2) := by decide +kernel
theorem dL_refuses_478 : decode cL_refuses 478 = .ok (.if_icmp .ne 123, 3) := by decide +kernel
theorem dL_refuses_481 : decode cL_refuses 481 = .ok (.aload_n 0, 1) := by decide +kernel
theorem dL_refuses_482 : decode cL_refuses 482 = .ok (.bipush 12, 2) := by decide +kernel
theorem dL_refuses_484 : decode cL_refuses 484 = .ok (.iconst 2, 1) := by decide +kernel
theorem dL_refuses_485 : decode cL_refuses 485 = .ok (.iconst 0, 1) := by decide +kernel
theorem dL_refuses_486 : decode cL_refuses 486 = .ok (.iconst 5, 1) := by decide +kernel
theorem dL_refuses_487 : decode cL_refuses 487 = .ok (.iload_n 1, 1) := by decide +kernel
theorem dL_refuses_488 : decode cL_refuses 488 = .ok (.bipush 9, 2) := by decide +kernel
theorem dL_refuses_490 : decode cL_refuses 490 = .ok (.irem, 1) := by decide +kernel
theorem dL_refuses_491 : decode cL_refuses 491 = .ok (.iadd, 1) := by decide +kernel
theorem dL_refuses_492 : decode cL_refuses 492 = .ok (.invokestatic 138, 3) := by decide +kernel
theorem dL_refuses_495 : decode cL_refuses 495 = .ok (.ldc 18, 2) := by decide +kernel
theorem dL_refuses_497 : decode cL_refuses 497 = .ok (.if_icmp .ne 104, 3) := by decide +kernel
theorem dL_refuses_500 : decode cL_refuses 500 = .ok (.aload_n 0, 1) := by decide +kernel
theorem dL_refuses_501 : decode cL_refuses 501 = .ok (.bipush 13, 2) := by decide +kernel
theorem dL_refuses_503 : decode cL_refuses 503 = .ok (.iload_n 3, 1) := by decide +kernel
theorem dL_refuses_504 : decode cL_refuses 504 = .ok (.iconst 0, 1) := by decide +kernel
theorem dL_refuses_505 : decode cL_refuses 505 = .ok (.iconst 0, 1) := by decide +kernel
theorem dL_refuses_506 : decode cL_refuses 506 = .ok (.invokestatic 138, 3) := by decide +kernel
theorem dL_refuses_509 : decode cL_refuses 509 = .ok (.ldc 15, 2) := by decide +kernel
theorem dL_refuses_511 : decode cL_refuses 511 = .ok (.if_icmp .ne 90, 3) := by decide +kernel
theorem dL_refuses_514 : decode cL_refuses 514 = .ok (.aload_n 0, 1) := by decide +kernel
theorem dL_refuses_515 : decode cL_refuses 515 = .ok (.bipush 14, 2) := by decide +kernel
theorem dL_refuses_517 : decode cL_refuses 517 = .ok (.iconst 2, 1) := by decide +kernel
theorem dL_refuses_518 : decode cL_refuses 518 = .ok (.iload_n 1, 1) := by decide +kernel
theorem dL_refuses_519 : decode cL_refuses 519 = .ok (.bipush 50, 2) := by decide +kernel
theorem dL_refuses_521 : decode cL_refuses 521 = .ok (.irem, 1) := by decide +kernel
theorem dL_refuses_522 : decode cL_refuses 522 = .ok (.iadd, 1) := by decide +kernel
theorem dL_refuses_523 : decode cL_refuses 523 = .ok (.iconst 0, 1) := by decide +kernel
theorem dL_refuses_524 : decode cL_refuses 524 = .ok (.iconst 0, 1) := by decide +kernel
theorem dL_refuses_525 : decode cL_refuses 525 = .ok (.invokestatic 138, 3) := by decide +kernel
theorem dL_refuses_528 : decode cL_refuses 528 = .ok (.ldc 15, 2) := by decide +kernel
theorem dL_refuses_530 : decode cL_refuses 530 = .ok (.if_icmp .ne 71, 3) := by decide +kernel
theorem dL_refuses_533 : decode cL_refuses 533 = .ok (.aload_n 0, 1) := by decide +kernel
theorem dL_refuses_534 : decode cL_refuses 534 = .ok (.bipush 15, 2) := by decide +kernel
theorem dL_refuses_536 : decode cL_refuses 536 = .ok (.iconst (-1), 1) := by decide +kernel
theorem dL_refuses_537 : decode cL_refuses 537 = .ok (.iload_n 1, 1) := by decide +kernel
theorem dL_refuses_538 : decode cL_refuses 538 = .ok (.bipush 9, 2) := by decide +kernel
theorem dL_refuses_540 : decode cL_refuses 540 = .ok (.irem, 1) := by decide +kernel
theorem dL_refuses_541 : decode cL_refuses 541 = .ok (.isub, 1) := by decide +kernel
theorem dL_refuses_542 : decode cL_refuses 542 = .ok (.iconst 0, 1) := by decide +kernel
theorem dL_refuses_543 : decode cL_refuses 543 = .ok (.iconst 0, 1) := by decide +kernel
theorem dL_refuses_544 : decode cL_refuses 544 = .ok (.invokestatic 138, 3) := by decide +kernel
theorem dL_refuses_547 : decode cL_refuses 547 = .ok (.ldc 15, 2) := by decide +kernel
theorem dL_refuses_549 : decode cL_refuses 549 = .ok (.if_icmp .ne 52, 3) := by decide +kernel
theorem dL_refuses_552 : decode cL_refuses 552 = .ok (.aload_n 0, 1) := by decide +kernel
theorem dL_refuses_553 : decode cL_refuses 553 = .ok (.iconst 0, 1) := by decide +kernel
theorem dL_refuses_554 : decode cL_refuses 554 = .ok (.lconst 0, 1) := by decide +kernel
theorem dL_refuses_555 : decode cL_refuses 555 = .ok (.invokestatic 145, 3) := by decide +kernel
theorem dL_refuses_558 : decode cL_refuses 558 = .ok (.ldc 18, 2) := by decide +kernel
theorem dL_refuses_560 : decode cL_refuses 560 = .ok (.if_icmp .ne 41, 3) := by decide +kernel
theorem dL_refuses_563 : decode cL_refuses 563 = .ok (.aload_n 0, 1) := by decide +kernel
theorem dL_refuses_564 : decode cL_refuses 564 = .ok (.iconst 1, 1) := by decide +kernel
theorem dL_refuses_565 : decode cL_refuses 565 = .ok (.ldc2_w 149, 3) := by decide +kernel
theorem dL_refuses_568 : decode cL_refuses 568 = .ok (.iload_n 1, 1) := by decide +kernel
theorem dL_refuses_569 : decode cL_refuses 569 = .ok (.i2l, 1) := by decide +kernel
theorem dL_refuses_570 : decode cL_refuses 570 = .ok (.ladd, 1) := by decide +kernel
theorem dL_refuses_571 : decode cL_refuses 571 = .ok (.invokestatic 145, 3) := by decide +kernel
theorem dL_refuses_574 : decode cL_refuses 574 = .ok (.ldc 18, 2) := by decide +kernel
theorem dL_refuses_576 : decode cL_refuses 576 = .ok (.if_icmp .ne 25, 3) := by decide +kernel
theorem dL_refuses_579 : decode cL_refuses 579 = .ok (.aload_n 0, 1) := by decide +kernel
theorem dL_refuses_580 : decode cL_refuses 580 = .ok (.iload_n 1, 1) := by decide +kernel
theorem dL_refuses_581 : decode cL_refuses 581 = .ok (.i2l, 1) := by decide +kernel
theorem dL_refuses_582 : decode cL_refuses 582 = .ok (.bipush 101, 2) := by decide +kernel
theorem dL_refuses_584 : decode cL_refuses 584 = .ok (.iload_n 1, 1) := by decide +kernel
theorem dL_refuses_585 : decode cL_refuses 585 = .ok (.bipush 9, 2) := by decide +kernel
theorem dL_refuses_587 : decode cL_refuses 587 = .ok (.irem, 1) := by decide +kernel
theorem dL_refuses_588 : decode cL_refuses 588 = .ok (.iadd, 1) := by decide +kernel
theorem dL_refuses_589 : decode cL_refuses 589 = .ok (.invokestatic 151, 3) := by decide +kernel
theorem dL_refuses_592 : decode cL_refuses 592 = .ok (.ldc 18, 2) := by decide +kernel
theorem dL_refuses_594 : decode cL_refuses 594 = .ok (.if_icmp .ne 7, 3) := by decide +kernel
theorem dL_refuses_597 : decode cL_refuses 597 = .ok (.iconst 1, 1) := by decide +kernel
theorem dL_refuses_598 : decode cL_refuses 598 = .ok (.goto 4, 3) := by decide +kernel
theorem dL_refuses_601 : decode cL_refuses 601 = .ok (.iconst 0, 1) := by decide +kernel
theorem dL_refuses_602 : decode cL_refuses 602 = .ok (.istore 5, 2) := by decide +kernel
theorem dL_refuses_604 : decode cL_refuses 604 = .ok (.iload 5, 2) := by decide +kernel
theorem dL_refuses_606 : decode cL_refuses 606 = .ok (.ifCond .eq 25, 3) := by decide +kernel
theorem dL_refuses_609 : decode cL_refuses 609 = .ok (.iload_n 2, 1) := by decide +kernel
theorem dL_refuses_610 : decode cL_refuses 610 = .ok (.iconst 4, 1) := by decide +kernel
theorem dL_refuses_611 : decode cL_refuses 611 = .ok (.if_icmp .lt 16, 3) := by decide +kernel
theorem dL_refuses_614 : decode cL_refuses 614 = .ok (.aload_n 0, 1) := by decide +kernel
theorem dL_refuses_615 : decode cL_refuses 615 = .ok (.iconst 0, 1) := by decide +kernel
theorem dL_refuses_616 : decode cL_refuses 616 = .ok (.iconst 0, 1) := by decide +kernel
theorem dL_refuses_617 : decode cL_refuses 617 = .ok (.iconst 0, 1) := by decide +kernel
theorem dL_refuses_618 : decode cL_refuses 618 = .ok (.iconst 1, 1) := by decide +kernel
theorem dL_refuses_619 : decode cL_refuses 619 = .ok (.invokestatic 142, 3) := by decide +kernel
theorem dL_refuses_622 : decode cL_refuses 622 = .ok (.ldc 21, 2) := by decide +kernel
theorem dL_refuses_624 : decode cL_refuses 624 = .ok (.if_icmp .ne 7, 3) := by decide +kernel
theorem dL_refuses_627 : decode cL_refuses 627 = .ok (.iconst 1, 1) := by decide +kernel
theorem dL_refuses_628 : decode cL_refuses 628 = .ok (.goto 4, 3) := by decide +kernel
theorem dL_refuses_631 : decode cL_refuses 631 = .ok (.iconst 0, 1) := by decide +kernel
theorem dL_refuses_632 : decode cL_refuses 632 = .ok (.ireturn, 1) := by decide +kernel
theorem dL_holds_0 : decode cL_holds 0 = .ok (.aload_n 0, 1) := by decide +kernel
theorem dL_holds_1 : decode cL_holds 1 = .ok (.iconst 2, 1) := by decide +kernel
theorem dL_holds_2 : decode cL_holds 2 = .ok (.iconst 0, 1) := by decide +kernel
theorem dL_holds_3 : decode cL_holds 3 = .ok (.iconst 0, 1) := by decide +kernel
theorem dL_holds_4 : decode cL_holds 4 = .ok (.iconst 0, 1) := by decide +kernel
theorem dL_holds_5 : decode cL_holds 5 = .ok (.invokestatic 138, 3) := by decide +kernel
theorem dL_holds_8 : decode cL_holds 8 = .ok (.istore_n 1, 1) := by decide +kernel
theorem dL_holds_9 : decode cL_holds 9 = .ok (.aload_n 0, 1) := by decide +kernel
theorem dL_holds_10 : decode cL_holds 10 = .ok (.iconst 2, 1) := by decide +kernel
theorem dL_holds_11 : decode cL_holds 11 = .ok (.iconst 1, 1) := by decide +kernel
theorem dL_holds_12 : decode cL_holds 12 = .ok (.iconst 0, 1) := by decide +kernel
theorem dL_holds_13 : decode cL_holds 13 = .ok (.iconst 0, 1) := by decide +kernel
theorem dL_holds_14 : decode cL_holds 14 = .ok (.invokestatic 138, 3) := by decide +kernel
theorem dL_holds_17 : decode cL_holds 17 = .ok (.istore_n 2, 1) := by decide +kernel
theorem dL_holds_18 : decode cL_holds 18 = .ok (.iconst 0, 1) := by decide +kernel
theorem dL_holds_19 : decode cL_holds 19 = .ok (.istore_n 3, 1) := by decide +kernel
theorem dL_holds_20 : decode cL_holds 20 = .ok (.iconst 0, 1) := by decide +kernel
theorem dL_holds_21 : decode cL_holds 21 = .ok (.istore 4, 2) := by decide +kernel
theorem dL_holds_23 : decode cL_holds 23 = .ok (.iconst 0, 1) := by decide +kernel
theorem dL_holds_24 : decode cL_holds 24 = .ok (.istore 5, 2) := by decide +kernel
theorem dL_holds_26 : decode cL_holds 26 = .ok (.iconst 0, 1) := by decide +kernel
theorem dL_holds_27 : decode cL_holds 27 = .ok (.istore 6, 2) := by decide +kernel
theorem dL_holds_29 : decode cL_holds 29 = .ok (.iconst 0, 1) := by decide +kernel
theorem dL_holds_30 : decode cL_holds 30 = .ok (.istore 7, 2) := by decide +kernel
theorem dL_holds_32 : decode cL_holds 32 = .ok (.aload_n 0, 1) := by decide +kernel
theorem dL_holds_33 : decode cL_holds 33 = .ok (.iconst 5, 1) := by decide +kernel
theorem dL_holds_34 : decode cL_holds 34 = .ok (.iconst 1, 1) := by decide +kernel
theorem dL_holds_35 : decode cL_holds 35 = .ok (.iconst 0, 1) := by decide +kernel
theorem dL_holds_36 : decode cL_holds 36 = .ok (.iconst 0, 1) := by decide +kernel
theorem dL_holds_37 : decode cL_holds 37 = .ok (.invokestatic 138, 3) := by decide +kernel
theorem dL_holds_40 : decode cL_holds 40 = .ok (.istore 8, 2) := by decide +kernel
theorem dL_holds_42 : decode cL_holds 42 = .ok (.iload_n 1, 1) := by decide +kernel
theorem dL_holds_43 : decode cL_holds 43 = .ok (.iconst 4, 1) := by decide +kernel
theorem dL_holds_44 : decode cL_holds 44 = .ok (.if_icmp .gt 17, 3) := by decide +kernel
theorem dL_holds_47 : decode cL_holds 47 = .ok (.iload_n 2, 1) := by decide +kernel
theorem dL_holds_48 : decode cL_holds 48 = .ok (.ifCond .lt 13, 3) := by decide +kernel
theorem dL_holds_51 : decode cL_holds 51 = .ok (.iload_n 2, 1) := by decide +kernel
theorem dL_holds_52 : decode cL_holds 52 = .ok (.bipush 7, 2) := by decide +kernel
theorem dL_holds_54 : decode cL_holds 54 = .ok (.if_icmp .ge 7, 3) := by decide +kernel
theorem dL_holds_57 : decode cL_holds 57 = .ok (.iconst 1, 1) := by decide +kernel
theorem dL_holds_58 : decode cL_holds 58 = .ok (.goto 4, 3) := by decide +kernel
theorem dL_holds_61 : decode cL_holds 61 = .ok (.iconst 0, 1) := by decide +kernel
theorem dL_holds_62 : decode cL_holds 62 = .ok (.istore 9, 2) := by decide +kernel
theorem dL_holds_64 : decode cL_holds 64 = .ok (.iconst 0, 1) := by decide +kernel
theorem dL_holds_65 : decode cL_holds 65 = .ok (.istore 10, 2) := by decide +kernel
theorem dL_holds_67 : decode cL_holds 67 = .ok (.iload 10, 2) := by decide +kernel
theorem dL_holds_69 : decode cL_holds 69 = .ok (.iload_n 1, 1) := by decide +kernel
theorem dL_holds_70 : decode cL_holds 70 = .ok (.if_icmp .ge 370, 3) := by decide +kernel
theorem dL_holds_73 : decode cL_holds 73 = .ok (.iload 9, 2) := by decide +kernel
theorem dL_holds_75 : decode cL_holds 75 = .ok (.ifCond .eq 365, 3) := by decide +kernel
theorem dL_holds_78 : decode cL_holds 78 = .ok (.aload_n 0, 1) := by decide +kernel
theorem dL_holds_79 : decode cL_holds 79 = .ok (.iconst 3, 1) := by decide +kernel
theorem dL_holds_80 : decode cL_holds 80 = .ok (.iload 10, 2) := by decide +kernel
theorem dL_holds_82 : decode cL_holds 82 = .ok (.iconst 3, 1) := by decide +kernel
theorem dL_holds_83 : decode cL_holds 83 = .ok (.iconst 0, 1) := by decide +kernel
theorem dL_holds_84 : decode cL_holds 84 = .ok (.invokestatic 138, 3) := by decide +kernel
theorem dL_holds_87 : decode cL_holds 87 = .ok (.istore 11, 2) := by decide +kernel
theorem dL_holds_89 : decode cL_holds 89 = .ok (.aload_n 0, 1) := by decide +kernel
theorem dL_holds_90 : decode cL_holds 90 = .ok (.iconst 3, 1) := by decide +kernel
theorem dL_holds_91 : decode cL_holds 91 = .ok (.iload 10, 2) := by decide +kernel
theorem dL_holds_93 : decode cL_holds 93 = .ok (.iconst 4, 1) := by decide +kernel
theorem dL_holds_94 : decode cL_holds 94 = .ok (.iconst 0, 1) := by decide +kernel
theorem dL_holds_95 : decode cL_holds 95 = .ok (.invokestatic 138, 3) := by decide +kernel
theorem dL_holds_98 : decode cL_holds 98 = .ok (.istore 12, 2) := by decide +kernel
theorem dL_holds_100 : decode cL_holds 100 = .ok (.aload_n 0, 1) := by decide +kernel
theorem dL_holds_101 : decode cL_holds 101 = .ok (.iconst 3, 1) := by decide +kernel
theorem dL_holds_102 : decode cL_holds 102 = .ok (.iload 10, 2) := by decide +kernel
theorem dL_holds_104 : decode cL_holds 104 = .ok (.iconst 5, 1) := by decide +kernel
theorem dL_holds_105 : decode cL_holds 105 = .ok (.iconst 0, 1) := by decide +kernel
theorem dL_holds_106 : decode cL_holds 106 = .ok (.invokestatic 138, 3) := by decide +kernel
theorem dL_holds_109 : decode cL_holds 109 = .ok (.istore 13, 2) := by decide +kernel
theorem dL_holds_111 : decode cL_holds 111 = .ok (.aload_n 0, 1) := by decide +kernel
theorem dL_holds_112 : decode cL_holds 112 = .ok (.bipush 10, 2) := by decide +kernel
theorem dL_holds_114 : decode cL_holds 114 = .ok (.iload 10, 2) := by decide +kernel
theorem dL_holds_116 : decode cL_holds 116 = .ok (.iconst 0, 1) := by decide +kernel
theorem dL_holds_117 : decode cL_holds 117 = .ok (.iconst 0, 1) := by decide +kernel
theorem dL_holds_118 : decode cL_holds 118 = .ok (.invokestatic 138, 3) := by decide +kernel
theorem dL_holds_121 : decode cL_holds 121 = .ok (.istore 14, 2) := by decide +kernel
theorem dL_holds_123 : decode cL_holds 123 = .ok (.aload_n 0, 1) := by decide +kernel
theorem dL_holds_124 : decode cL_holds 124 = .ok (.bipush 13, 2) := by decide +kernel
theorem dL_holds_126 : decode cL_holds 126 = .ok (.iload 10, 2) := by decide +kernel
theorem dL_holds_128 : decode cL_holds 128 = .ok (.iconst 0, 1) := by decide +kernel
theorem dL_holds_129 : decode cL_holds 129 = .ok (.iconst 0, 1) := by decide +kernel
theorem dL_holds_130 : decode cL_holds 130 = .ok (.invokestatic 138, 3) := by decide +kernel
theorem dL_holds_133 : decode cL_holds 133 = .ok (.istore 15, 2) := by decide +kernel
theorem dL_holds_135 : decode cL_holds 135 = .ok (.iload_n 3, 1) := by decide +kernel
theorem dL_holds_136 : decode cL_holds 136 = .ok (.iload 11, 2) := by decide +kernel
theorem dL_holds_138 : decode cL_holds 138 = .ok (.iconst 1, 1) := by decide +kernel
theorem dL_holds_139 : decode cL_holds 139 = .ok (.if_icmp .ne 15, 3) := by decide +kernel
theorem dL_holds_142 : decode cL_holds 142 = .ok (.aload_n 0, 1) := by decide +kernel
theorem dL_holds_143 : decode cL_holds 143 = .ok (.iconst 3, 1) := by decide +kernel
theorem dL_holds_144 : decode cL_holds 144 = .ok (.iload 10, 2) := by decide +kernel
theorem dL_holds_146 : decode cL_holds 146 = .ok (.iconst 2, 1) := by decide +kernel
theorem dL_holds_147 : decode cL_holds 147 = .ok (.iconst 0, 1) := by decide +kernel
theorem dL_holds_148 : decode cL_holds 148 = .ok (.invokestatic 138, 3) := by decide +kernel
theorem dL_holds_151 : decode cL_holds 151 = .ok (.goto 4, 3) := by decide +kernel
theorem dL_holds_154 : decode cL_holds 154 = .ok (.iconst 0, 1) := by decide +kernel
theorem dL_holds_155 : decode cL_holds 155 = .ok (.iadd, 1) := by decide +kernel
theorem dL_holds_156 : decode cL_holds 156 = .ok (.istore_n 3, 1) := by decide +kernel
theorem dL_holds_157 : decode cL_holds 157 = .ok (.iload 4, 2) := by decide +kernel
theorem dL_holds_159 : decode cL_holds 159 = .ok (.iload 11, 2) := by decide +kernel
theorem dL_holds_161 : decode cL_holds 161 = .ok (.ifCond .ne 7, 3) := by decide +kernel
theorem dL_holds_164 : decode cL_holds 164 = .ok (.iconst 1, 1) := by decide +kernel
theorem dL_holds_165 : decode cL_holds 165 = .ok (.goto 4, 3) := by decide +kernel
theorem dL_holds_168 : decode cL_holds 168 = .ok (.iconst 0, 1) := by decide +kernel
theorem dL_holds_169 : decode cL_holds 169 = .ok (.iadd, 1) := by decide +kernel
theorem dL_holds_170 : decode cL_holds 170 = .ok (.istore 4, 2) := by decide +kernel
theorem dL_holds_172 : decode cL_holds 172 = .ok (.iload 5, 2) := by decide +kernel
theorem dL_holds_174 : decode cL_holds 174 = .ok (.iload 11, 2) := by decide +kernel
theorem dL_holds_176 : decode cL_holds 176 = .ok (.iconst 1, 1) := by decide +kernel
theorem dL_holds_177 : decode cL_holds 177 = .ok (.if_icmp .ne 7, 3) := by decide +kernel
theorem dL_holds_180 : decode cL_holds 180 = .ok (.iconst 1, 1) := by decide +kernel
theorem dL_holds_181 : decode cL_holds 181 = .ok (.goto 4, 3) := by decide +kernel
theorem dL_holds_184 : decode cL_holds 184 = .ok (.iconst 0, 1) := by decide +kernel
theorem dL_holds_185 : decode cL_holds 185 = .ok (.iadd, 1) := by decide +kernel
theorem dL_holds_186 : decode cL_holds 186 = .ok (.istore 5, 2) := by decide +kernel
theorem dL_holds_188 : decode cL_holds 188 = .ok (.iload 6, 2) := by decide +kernel
theorem dL_holds_190 : decode cL_holds 190 = .ok (.iload 11, 2) := by decide +kernel
theorem dL_holds_192 : decode cL_holds 192 = .ok (.iconst 2, 1) := by decide +kernel
theorem dL_holds_193 : decode cL_holds 193 = .ok (.if_icmp .ne 7, 3) := by decide +kernel
theorem dL_holds_196 : decode cL_holds 196 = .ok (.iconst 1, 1) := by decide +kernel
theorem dL_holds_197 : decode cL_holds 197 = .ok (.goto 4, 3) := by decide +kernel
theorem dL_holds_200 : decode cL_holds 200 = .ok (.iconst 0, 1) := by decide +kernel
theorem dL_holds_201 : decode cL_holds 201 = .ok (.iadd, 1) := by decide +kernel
theorem dL_holds_202 : decode cL_holds 202 = .ok (.istore 6, 2) := by decide +kernel
theorem dL_holds_204 : decode cL_holds 204 = .ok (.iload 7, 2) := by decide +kernel
theorem dL_holds_206 : decode cL_holds 206 = .ok (.iload 13, 2) := by decide +kernel
theorem dL_holds_208 : decode cL_holds 208 = .ok (.iadd, 1) := by decide +kernel
theorem dL_holds_209 : decode cL_holds 209 = .ok (.istore 7, 2) := by decide +kernel
theorem dL_holds_211 : decode cL_holds 211 = .ok (.iload 13, 2) := by decide +kernel
theorem dL_holds_213 : decode cL_holds 213 = .ok (.ifCond .lt 218, 3) := by decide +kernel
theorem dL_holds_216 : decode cL_holds 216 = .ok (.iload 13, 2) := by decide +kernel
theorem dL_holds_218 : decode cL_holds 218 = .ok (.bipush 9, 2) := by decide +kernel
theorem dL_holds_220 : decode cL_holds 220 = .ok (.if_icmp .gt 211, 3) := by decide +kernel
theorem dL_holds_223 : decode cL_holds 223 = .ok (.iload 11, 2) := by decide +kernel
theorem dL_holds_225 : decode cL_holds 225 = .ok (.iconst 1, 1) := by decide +kernel
theorem dL_holds_226 : decode cL_holds 226 = .ok (.if_icmp .ne 9, 3) := by decide +kernel
theorem dL_holds_229 : decode cL_holds 229 = .ok (.iload 12, 2) := by decide +kernel
theorem dL_holds_231 : decode cL_holds 231 = .ok (.iload_n 2, 1) := by decide +kernel
theorem dL_holds_232 : decode cL_holds 232 = .ok (.if_icmp .ne 199, 3) := by decide +kernel
theorem dL_holds_235 : decode cL_holds 235 = .ok (.iload 11, 2) := by decide +kernel
theorem dL_holds_237 : decode cL_holds 237 = .ok (.iconst 2, 1) := by decide +kernel
theorem dL_holds_238 : decode cL_holds 238 = .ok (.if_icmp .ne 7, 3) := by decide +kernel
theorem dL_holds_241 : decode cL_holds 241 = .ok (.iconst 1, 1) := by decide +kernel
theorem dL_holds_242 : decode cL_holds 242 = .ok (.goto 4, 3) := by decide +kernel
theorem dL_holds_245 : decode cL_holds 245 = .ok (.iconst 0, 1) := by decide +kernel
theorem dL_holds_246 : decode cL_holds 246 = .ok (.iload 12, 2) := by decide +kernel
theorem dL_holds_248 : decode cL_holds 248 = .ok (.aload_n 0, 1) := by decide +kernel
theorem dL_holds_249 : decode cL_holds 249 = .ok (.iconst 3, 1) := by decide +kernel
theorem dL_holds_250 : decode cL_holds 250 = .ok (.iload 10, 2) := by decide +kernel
theorem dL_holds_252 : decode cL_holds 252 = .ok (.iconst 1, 1) := by decide +kernel
theorem dL_holds_253 : decode cL_holds 253 = .ok (.iconst 0, 1) := by decide +kernel
theorem dL_holds_254 : decode cL_holds 254 = .ok (.invokestatic 138, 3) := by decide +kernel
theorem dL_holds_257 : decode cL_holds 257 = .ok (.if_icmp .ne 7, 3) := by decide +kernel
theorem dL_holds_260 : decode cL_holds 260 = .ok (.iconst 1, 1) := by decide +kernel
theorem dL_holds_261 : decode cL_holds 261 = .ok (.goto 4, 3) := by decide +kernel
theorem dL_holds_264 : decode cL_holds 264 = .ok (.iconst 0, 1) := by decide +kernel
theorem dL_holds_265 : decode cL_holds 265 = .ok (.if_icmp .ne 166, 3) := by decide +kernel
theorem dL_holds_268 : decode cL_holds 268 = .ok (.iload 11, 2) := by decide +kernel
theorem dL_holds_270 : decode cL_holds 270 = .ok (.iconst 2, 1) := by decide +kernel
theorem dL_holds_271 : decode cL_holds 271 = .ok (.if_icmp .ne 8, 3) := by decide +kernel
theorem dL_holds_274 : decode cL_holds 274 = .ok (.iload 13, 2) := by decide +kernel
theorem dL_holds_276 : decode cL_holds 276 = .ok (.ifCond .ne 155, 3) := by decide +kernel
theorem dL_holds_279 : decode cL_holds 279 = .ok (.iload 14, 2) := by decide +kernel
theorem dL_holds_281 : decode cL_holds 281 = .ok (.iload 11, 2) := by decide +kernel
theorem dL_holds_283 : decode cL_holds 283 = .ok (.iconst 2, 1) := by decide +kernel
theorem dL_holds_284 : decode cL_holds 284 = .ok (.if_icmp .ne 7, 3) := by decide +kernel
theorem dL_holds_287 : decode cL_holds 287 = .ok (.iconst 1, 1) := by decide +kernel
theorem dL_holds_288 : decode cL_holds 288 = .ok (.goto 32, 3) := by decide +kernel
theorem dL_holds_291 : decode cL_holds 291 = .ok (.iload 13, 2) := by decide +kernel
theorem dL_holds_293 : decode cL_holds 293 = .ok (.iload 8, 2) := by decide +kernel
theorem dL_holds_295 : decode cL_holds 295 = .ok (.if_icmp .lt 7, 3) := by decide +kernel
theorem dL_holds_298 : decode cL_holds 298 = .ok (.iconst 2, 1) := by decide +kernel
theorem dL_holds_299 : decode cL_holds 299 = .ok (.goto 21, 3) := by decide +kernel
theorem dL_holds_302 : decode cL_holds 302 = .ok (.aload_n 0, 1) := by decide +kernel
theorem dL_holds_303 : decode cL_holds 303 = .ok (.iconst 3, 1) := by decide +kernel
theorem dL_holds_304 : decode cL_holds 304 = .ok (.iload 10, 2) := by decide +kernel
theorem dL_holds_306 : decode cL_holds 306 = .ok (.iconst 0, 1) := by decide +kernel
theorem dL_holds_307 : decode cL_holds 307 = .ok (.iconst 0, 1) := by decide +kernel
theorem dL_holds_308 : decode cL_holds 308 = .ok (.invokestatic 138, 3) := by decide +kernel
theorem dL_holds_311 : decode cL_holds 311 = .ok (.iload_n 2, 1) := by decide +kernel
theorem dL_holds_312 : decode cL_holds 312 = .ok (.if_icmp .ne 7, 3) := by decide +kernel
theorem dL_holds_315 : decode cL_holds 315 = .ok (.iconst 3, 1) := by decide +kernel
theorem dL_holds_316 : decode cL_holds 316 = .ok (.goto 4, 3) := by decide +kernel
theorem dL_holds_319 : decode cL_holds 319 = .ok (.iconst 0, 1) := by decide +kernel
theorem dL_holds_320 : decode cL_holds 320 = .ok (.if_icmp .ne 111, 3) := by decide +kernel
theorem dL_holds_323 : decode cL_holds 323 = .ok (.aload_n 0, 1) := by decide +kernel
theorem dL_holds_324 : decode cL_holds 324 = .ok (.iconst 4, 1) := by decide +kernel
theorem dL_holds_325 : decode cL_holds 325 = .ok (.iload 12, 2) := by decide +kernel
theorem dL_holds_327 : decode cL_holds 327 = .ok (.iconst 0, 1) := by decide +kernel
theorem dL_holds_328 : decode cL_holds 328 = .ok (.iconst 0, 1) := by decide +kernel
theorem dL_holds_329 : decode cL_holds 329 = .ok (.invokestatic 138, 3) := by decide +kernel
theorem dL_holds_332 : decode cL_holds 332 = .ok (.iload 10, 2) := by decide +kernel
theorem dL_holds_334 : decode cL_holds 334 = .ok (.ishr, 1) := by decide +kernel
theorem dL_holds_335 : decode cL_holds 335 = .ok (.iconst 1, 1) := by decide +kernel
theorem dL_holds_336 : decode cL_holds 336 = .ok (.iand, 1) := by decide +kernel
theorem dL_holds_337 : decode cL_holds 337 = .ok (.iload 11, 2) := by decide +kernel
theorem dL_holds_339 : decode cL_holds 339 = .ok (.ifCond .ne 7, 3) := by decide +kernel
theorem dL_holds_342 : decode cL_holds 342 = .ok (.iconst 1, 1) := by decide +kernel
theorem dL_holds_343 : decode cL_holds 343 = .ok (.goto 4, 3) := by decide +kernel
theorem dL_holds_346 : decode cL_holds 346 = .ok (.iconst 0, 1) := by decide +kernel
theorem dL_holds_347 : decode cL_holds 347 = .ok (.if_icmp .ne 84, 3) := by decide +kernel
theorem dL_holds_350 : decode cL_holds 350 = .ok (.aload_n 0, 1) := by decide +kernel
theorem dL_holds_351 : decode cL_holds 351 = .ok (.iconst 4, 1) := by decide +kernel
theorem dL_holds_352 : decode cL_holds 352 = .ok (.iload 12, 2) := by decide +kernel
theorem dL_holds_354 : decode cL_holds 354 = .ok (.iconst 1, 1) := by decide +kernel
theorem dL_holds_355 : decode cL_holds 355 = .ok (.iconst 0, 1) := by decide +kernel
theorem dL_holds_356 : decode cL_holds 356 = .ok (.invokestatic 138, 3) := by decide +kernel
theorem dL_holds_359 : decode cL_holds 359 = .ok (.iload 10, 2) := by decide +kernel
theorem dL_holds_361 : decode cL_holds 361 = .ok (.ishr, 1) := by decide +kernel
theorem dL_holds_362 : decode cL_holds 362 = .ok (.iconst 1, 1) := by decide +kernel
theorem dL_holds_363 : decode cL_holds 363 = .ok (.iand, 1) := by decide +kernel
theorem dL_holds_364 : decode cL_holds 364 = .ok (.iload 11, 2) := by decide +kernel
theorem dL_holds_366 : decode cL_holds 366 = .ok (.iconst 2, 1) := by decide +kernel
theorem dL_holds_367 : decode cL_holds 367 = .ok (.if_icmp .ne 7, 3) := by decide +kernel
theorem dL_holds_370 : decode cL_holds 370 = .ok (.iconst 1, 1) := by decide +kernel
theorem dL_holds_371 : decode cL_holds 371 = .ok (.goto 4, 3) := by decide +kernel
theorem dL_holds_374 : decode cL_holds 374 = .ok (.iconst 0, 1) := by decide +kernel
theorem dL_holds_375 : decode cL_holds 375 = .ok (.if_icmp .ne 56, 3) := by decide +kernel
theorem dL_holds_378 : decode cL_holds 378 = .ok (.aload_n 0, 1) := by decide +kernel
theorem dL_holds_379 : decode cL_holds 379 = .ok (.iconst 4, 1) := by decide +kernel
theorem dL_holds_380 : decode cL_holds 380 = .ok (.aload_n 0, 1) := by decide +kernel
theorem dL_holds_381 : decode cL_holds 381 = .ok (.iconst 3, 1) := by decide +kernel
theorem dL_holds_382 : decode cL_holds 382 = .ok (.iload 10, 2) := by decide +kernel
theorem dL_holds_384 : decode cL_holds 384 = .ok (.iconst 0, 1) := by decide +kernel
theorem dL_holds_385 : decode cL_holds 385 = .ok (.iconst 0, 1) := by decide +kernel
theorem dL_holds_386 : decode cL_holds 386 = .ok (.invokestatic 138, 3) := by decide +kernel
theorem dL_holds_389 : decode cL_holds 389 = .ok (.iconst 2, 1) := by decide +kernel
theorem dL_holds_390 : decode cL_holds 390 = .ok (.iconst 0, 1) := by decide +kernel
theorem dL_holds_391 : decode cL_holds 391 = .ok (.invokestatic 138, 3) := by decide +kernel
theorem dL_holds_394 : decode cL_holds 394 = .ok (.iload 10, 2) := by decide +kernel
theorem dL_holds_396 : decode cL_holds 396 = .ok (.ishr, 1) := by decide +kernel
theorem dL_holds_397 : decode cL_holds 397 = .ok (.iconst 1, 1) := by decide +kernel
theorem dL_holds_398 : decode cL_holds 398 = .ok (.iand, 1) := by decide +kernel
theorem dL_holds_399 : decode cL_holds 399 = .ok (.iconst 1, 1) := by decide +kernel
theorem dL_holds_400 : decode cL_holds 400 = .ok (.if_icmp .ne 31, 3) := by decide +kernel
theorem dL_holds_403 : decode cL_holds 403 = .ok (.iload 15, 2) := by decide +kernel
theorem dL_holds_405 : decode cL_holds 405 = .ok (.aload_n 0, 1) := by decide +kernel
theorem dL_holds_406 : decode cL_holds 406 = .ok (.iconst 4, 1) := by decide +kernel
theorem dL_holds_407 : decode cL_holds 407 = .ok (.aload_n 0, 1) := by decide +kernel
theorem dL_holds_408 : decode cL_holds 408 = .ok (.iconst 3, 1) := by decide +kernel
theorem dL_holds_409 : decode cL_holds 409 = .ok (.iload 10, 2) := by decide +kernel
theorem dL_holds_411 : decode cL_holds 411 = .ok (.iconst 0, 1) := by decide +kernel
theorem dL_holds_412 : decode cL_holds 412 = .ok (.iconst 0, 1) := by decide +kernel
theorem dL_holds_413 : decode cL_holds 413 = .ok (.invokestatic 138, 3) := by decide +kernel
theorem dL_holds_416 : decode cL_holds 416 = .ok (.iconst 0, 1) := by decide +kernel
theorem dL_holds_417 : decode cL_holds 417 = .ok (.iconst 0, 1) := by decide +kernel
theorem dL_holds_418 : decode cL_holds 418 = .ok (.invokestatic 138, 3) := by decide +kernel
theorem dL_holds_421 : decode cL_holds 421 = .ok (.iconst (-1), 1) := by decide +kernel
theorem dL_holds_422 : decode cL_holds 422 = .ok (.ixor, 1) := by decide +kernel
theorem dL_holds_423 : decode cL_holds 423 = .ok (.iand, 1) := by decide +kernel
theorem dL_holds_424 : decode cL_holds 424 = .ok (.ifCond .ne 7, 3) := by decide +kernel
theorem dL_holds_427 : decode cL_holds 427 = .ok (.iconst 1, 1) := by decide +kernel
theorem dL_holds_428 : decode cL_holds 428 = .ok (.goto 4, 3) := by decide +kernel
theorem dL_holds_431 : decode cL_holds 431 = .ok (.iconst 0, 1) := by decide +kernel
theorem dL_holds_432 : decode cL_holds 432 = .ok (.istore 9, 2) := by decide +kernel
theorem dL_holds_434 : decode cL_holds 434 = .ok (.iinc 10 1, 3) := by decide +kernel
theorem dL_holds_437 : decode cL_holds 437 = .ok (.goto (-370), 3) := by decide +kernel
theorem dL_holds_440 : decode cL_holds 440 = .ok (.aload_n 0, 1) := by decide +kernel
theorem dL_holds_441 : decode cL_holds 441 = .ok (.bipush 11, 2) := by decide +kernel
theorem dL_holds_443 : decode cL_holds 443 = .ok (.iconst 0, 1) := by decide +kernel
theorem dL_holds_444 : decode cL_holds 444 = .ok (.iconst 0, 1) := by decide +kernel
theorem dL_holds_445 : decode cL_holds 445 = .ok (.iconst 0, 1) := by decide +kernel
theorem dL_holds_446 : decode cL_holds 446 = .ok (.invokestatic 138, 3) := by decide +kernel
theorem dL_holds_449 : decode cL_holds 449 = .ok (.istore 10, 2) := by decide +kernel
theorem dL_holds_451 : decode cL_holds 451 = .ok (.aload_n 0, 1) := by decide +kernel
theorem dL_holds_452 : decode cL_holds 452 = .ok (.invokevirtual 155, 3) := by decide +kernel
theorem dL_holds_455 : decode cL_holds 455 = .ok (.istore 11, 2) := by decide +kernel
theorem dL_holds_457 : decode cL_holds 457 = .ok (.iload 9, 2) := by decide +kernel
theorem dL_holds_459 : decode cL_holds 459 = .ok (.ifCond .eq 188, 3) := by decide +kernel
theorem dL_holds_462 : decode cL_holds 462 = .ok (.iload_n 3, 1) := by decide +kernel
theorem dL_holds_463 : decode cL_holds 463 = .ok (.aload_n 0, 1) := by decide +kernel
theorem dL_holds_464 : decode cL_holds 464 = .ok (.iconst 2, 1) := by decide +kernel
theorem dL_holds_465 : decode cL_holds 465 = .ok (.iconst 2, 1) := by decide +kernel
theorem dL_holds_466 : decode cL_holds 466 = .ok (.iconst 0, 1) := by decide +kernel
theorem dL_holds_467 : decode cL_holds 467 = .ok (.iconst 0, 1) := by decide +kernel
theorem dL_holds_468 : decode cL_holds 468 = .ok (.invokestatic 138, 3) := by decide +kernel
theorem dL_holds_471 : decode cL_holds 471 = .ok (.if_icmp .ne 176, 3) := by decide +kernel
theorem dL_holds_474 : decode cL_holds 474 = .ok (.iload 4, 2) := by decide +kernel
theorem dL_holds_476 : decode cL_holds 476 = .ok (.aload_n 0, 1) := by decide +kernel
theorem dL_holds_477 : decode cL_holds 477 = .ok (.iconst 2, 1) := by decide +kernel
theorem dL_holds_478 : decode cL_holds 478 = .ok (.iconst 3, 1) := by decide +kernel
theorem dL_holds_479 : decode cL_holds 479 = .ok (.iconst 0, 1) := by decide +kernel
theorem dL_holds_480 : decode cL_holds 480 = .ok (.iconst 0, 1) := by decide +kernel
theorem dL_holds_481 : decode cL_holds 481 = .ok (.invokestatic 138, 3) := by decide +kernel
theorem dL_holds_484 : decode cL_holds 484 = .ok (.if_icmp .ne 163, 3) := by decide +kernel
theorem dL_holds_487 : decode cL_holds 487 = .ok (.iload 5, 2) := by decide +kernel
theorem dL_holds_489 : decode cL_holds 489 = .ok (.aload_n 0, 1) := by decide +kernel
theorem dL_holds_490 : decode cL_holds 490 = .ok (.iconst 2, 1) := by decide +kernel
theorem dL_holds_491 : decode cL_holds 491 = .ok (.iconst 4, 1) := by decide +kernel
theorem dL_holds_492 : decode cL_holds 492 = .ok (.iconst 0, 1) := by decide +kernel
theorem dL_holds_493 : decode cL_holds 493 = .ok (.iconst 0, 1) := by decide +kernel
theorem dL_holds_494 : decode cL_holds 494 = .ok (.invokestatic 138, 3) := by decide +kernel
theorem dL_holds_497 : decode cL_holds 497 = .ok (.if_icmp .ne 150, 3) := by decide +kernel
theorem dL_holds_500 : decode cL_holds 500 = .ok (.iload 6, 2) := by decide +kernel
theorem dL_holds_502 : decode cL_holds 502 = .ok (.aload_n 0, 1) := by decide +kernel
theorem dL_holds_503 : decode cL_holds 503 = .ok (.iconst 2, 1) := by decide +kernel
theorem dL_holds_504 : decode cL_holds 504 = .ok (.iconst 5, 1) := by decide +kernel
theorem dL_holds_505 : decode cL_holds 505 = .ok (.iconst 0, 1) := by decide +kernel
theorem dL_holds_506 : decode cL_holds 506 = .ok (.iconst 0, 1) := by decide +kernel
theorem dL_holds_507 : decode cL_holds 507 = .ok (.invokestatic 138, 3) := by decide +kernel
theorem dL_holds_510 : decode cL_holds 510 = .ok (.if_icmp .ne 137, 3) := by decide +kernel
theorem dL_holds_513 : decode cL_holds 513 = .ok (.iload 4, 2) := by decide +kernel
theorem dL_holds_515 : decode cL_holds 515 = .ok (.iload 5, 2) := by decide +kernel
theorem dL_holds_517 : decode cL_holds 517 = .ok (.iadd, 1) := by decide +kernel
theorem dL_holds_518 : decode cL_holds 518 = .ok (.iload 6, 2) := by decide +kernel
theorem dL_holds_520 : decode cL_holds 520 = .ok (.iadd, 1) := by decide +kernel
theorem dL_holds_521 : decode cL_holds 521 = .ok (.iload_n 1, 1) := by decide +kernel
theorem dL_holds_522 : decode cL_holds 522 = .ok (.if_icmp .ne 125, 3) := by decide +kernel
theorem dL_holds_525 : decode cL_holds 525 = .ok (.iload 7, 2) := by decide +kernel
theorem dL_holds_527 : decode cL_holds 527 = .ok (.aload_n 0, 1) := by decide +kernel
theorem dL_holds_528 : decode cL_holds 528 = .ok (.iconst 2, 1) := by decide +kernel
theorem dL_holds_529 : decode cL_holds 529 = .ok (.bipush 10, 2) := by decide +kernel
theorem dL_holds_531 : decode cL_holds 531 = .ok (.iconst 0, 1) := by decide +kernel
theorem dL_holds_532 : decode cL_holds 532 = .ok (.iconst 0, 1) := by decide +kernel
theorem dL_holds_533 : decode cL_holds 533 = .ok (.invokestatic 138, 3) := by decide +kernel
theorem dL_holds_536 : decode cL_holds 536 = .ok (.if_icmp .ne 111, 3) := by decide +kernel
theorem dL_holds_539 : decode cL_holds 539 = .ok (.iload 10, 2) := by decide +kernel
theorem dL_holds_541 : decode cL_holds 541 = .ok (.aload_n 0, 1) := by decide +kernel
theorem dL_holds_542 : decode cL_holds 542 = .ok (.bipush 11, 2) := by decide +kernel
theorem dL_holds_544 : decode cL_holds 544 = .ok (.iconst 1, 1) := by decide +kernel
theorem dL_holds_545 : decode cL_holds 545 = .ok (.iconst 0, 1) := by decide +kernel
theorem dL_holds_546 : decode cL_holds 546 = .ok (.iconst 0, 1) := by decide +kernel
theorem dL_holds_547 : decode cL_holds 547 = .ok (.invokestatic 138, 3) := by decide +kernel
theorem dL_holds_550 : decode cL_holds 550 = .ok (.if_icmp .ne 97, 3) := by decide +kernel
theorem dL_holds_553 : decode cL_holds 553 = .ok (.iload 10, 2) := by decide +kernel
theorem dL_holds_555 : decode cL_holds 555 = .ok (.ifCond .ne 7, 3) := by decide +kernel
theorem dL_holds_558 : decode cL_holds 558 = .ok (.iconst 1, 1) := by decide +kernel
theorem dL_holds_559 : decode cL_holds 559 = .ok (.goto 4, 3) := by decide +kernel
theorem dL_holds_562 : decode cL_holds 562 = .ok (.iconst 0, 1) := by decide +kernel
theorem dL_holds_563 : decode cL_holds 563 = .ok (.iload 6, 2) := by decide +kernel
theorem dL_holds_565 : decode cL_holds 565 = .ok (.iload_n 1, 1) := by decide +kernel
theorem dL_holds_566 : decode cL_holds 566 = .ok (.if_icmp .ne 7, 3) := by decide +kernel
theorem dL_holds_569 : decode cL_holds 569 = .ok (.iconst 1, 1) := by decide +kernel
theorem dL_holds_570 : decode cL_holds 570 = .ok (.goto 4, 3) := by decide +kernel
theorem dL_holds_573 : decode cL_holds 573 = .ok (.iconst 0, 1) := by decide +kernel
theorem dL_holds_574 : decode cL_holds 574 = .ok (.if_icmp .ne 73, 3) := by decide +kernel
theorem dL_holds_577 : decode cL_holds 577 = .ok (.iload 11, 2) := by decide +kernel
theorem dL_holds_579 : decode cL_holds 579 = .ok (.iconst (-1), 1) := by decide +kernel
theorem dL_holds_580 : decode cL_holds 580 = .ok (.if_icmp .ne 7, 3) := by decide +kernel
theorem dL_holds_583 : decode cL_holds 583 = .ok (.iconst 1, 1) := by decide +kernel
theorem dL_holds_584 : decode cL_holds 584 = .ok (.goto 4, 3) := by decide +kernel
theorem dL_holds_587 : decode cL_holds 587 = .ok (.iconst 0, 1) := by decide +kernel
theorem dL_holds_588 : decode cL_holds 588 = .ok (.iload 10, 2) := by decide +kernel
theorem dL_holds_590 : decode cL_holds 590 = .ok (.ifCond .gt 7, 3) := by decide +kernel
theorem dL_holds_593 : decode cL_holds 593 = .ok (.iconst 1, 1) := by decide +kernel
theorem dL_holds_594 : decode cL_holds 594 = .ok (.goto 4, 3) := by decide +kernel
theorem dL_holds_597 : decode cL_holds 597 = .ok (.iconst 0, 1) := by decide +kernel
theorem dL_holds_598 : decode cL_holds 598 = .ok (.if_icmp .ne 49, 3) := by decide +kernel
theorem dL_holds_601 : decode cL_holds 601 = .ok (.iload 11, 2) := by decide +kernel
theorem dL_holds_603 : decode cL_holds 603 = .ok (.iconst (-1), 1) := by decide +kernel
theorem dL_holds_604 : decode cL_holds 604 = .ok (.if_icmp .eq 16, 3) := by decide +kernel
theorem dL_holds_607 : decode cL_holds 607 = .ok (.aload_n 0, 1) := by decide +kernel
theorem dL_holds_608 : decode cL_holds 608 = .ok (.bipush 10, 2) := by decide +kernel
theorem dL_holds_610 : decode cL_holds 610 = .ok (.iload 11, 2) := by decide +kernel
theorem dL_holds_612 : decode cL_holds 612 = .ok (.iconst 0, 1) := by decide +kernel
theorem dL_holds_613 : decode cL_holds 613 = .ok (.iconst 0, 1) := by decide +kernel
theorem dL_holds_614 : decode cL_holds 614 = .ok (.invokestatic 138, 3) := by decide +kernel
theorem dL_holds_617 : decode cL_holds 617 = .ok (.ifCond .ne 30, 3) := by decide +kernel
theorem dL_holds_620 : decode cL_holds 620 = .ok (.aload_n 0, 1) := by decide +kernel
theorem dL_holds_621 : decode cL_holds 621 = .ok (.iconst 2, 1) := by decide +kernel
theorem dL_holds_622 : decode cL_holds 622 = .ok (.bipush 6, 2) := by decide +kernel
theorem dL_holds_624 : decode cL_holds 624 = .ok (.iconst 0, 1) := by decide +kernel
theorem dL_holds_625 : decode cL_holds 625 = .ok (.iconst 0, 1) := by decide +kernel
theorem dL_holds_626 : decode cL_holds 626 = .ok (.invokestatic 138, 3) := by decide +kernel
theorem dL_holds_629 : decode cL_holds 629 = .ok (.iconst 5, 1) := by decide +kernel
theorem dL_holds_630 : decode cL_holds 630 = .ok (.aload_n 0, 1) := by decide +kernel
theorem dL_holds_631 : decode cL_holds 631 = .ok (.iconst 2, 1) := by decide +kernel
theorem dL_holds_632 : decode cL_holds 632 = .ok (.bipush 7, 2) := by decide +kernel
theorem dL_holds_634 : decode cL_holds 634 = .ok (.iconst 0, 1) := by decide +kernel
theorem dL_holds_635 : decode cL_holds 635 = .ok (.iconst 0, 1) := by decide +kernel
theorem dL_holds_636 : decode cL_holds 636 = .ok (.invokestatic 138, 3) := by decide +kernel
theorem dL_holds_639 : decode cL_holds 639 = .ok (.imul, 1) := by decide +kernel
theorem dL_holds_640 : decode cL_holds 640 = .ok (.if_icmp .lt 7, 3) := by decide +kernel
theorem dL_holds_643 : decode cL_holds 643 = .ok (.iconst 1, 1) := by decide +kernel
theorem dL_holds_644 : decode cL_holds 644 = .ok (.goto 4, 3) := by decide +kernel
theorem dL_holds_647 : decode cL_holds 647 = .ok (.iconst 0, 1) := by decide +kernel
theorem dL_holds_648 : decode cL_holds 648 = .ok (.ireturn, 1) := by decide +kernel
theorem dL_act_0 : decode cL_act 0 = .ok (.iload_n 1, 1) := by decide +kernel
theorem dL_act_1 : decode cL_act 1 = .ok (.bipush 16, 2) := by decide +kernel
theorem dL_act_3 : decode cL_act 3 = .ok (.idiv, 1) := by decide +kernel
theorem dL_act_4 : decode cL_act 4 = .ok (.istore_n 2, 1) := by decide +kernel
theorem dL_act_5 : decode cL_act 5 = .ok (.aload_n 0, 1) := by decide +kernel
theorem dL_act_6 : decode cL_act 6 = .ok (.iconst 2, 1) := by decide +kernel
theorem dL_act_7 : decode cL_act 7 = .ok (.iconst 0, 1) := by decide +kernel
theorem dL_act_8 : decode cL_act 8 = .ok (.iconst 0, 1) := by decide +kernel
theorem dL_act_9 : decode cL_act 9 = .ok (.iconst 0, 1) := by decide +kernel
theorem dL_act_10 : decode cL_act 10 = .ok (.invokestatic 138, 3) := by decide +kernel
theorem dL_act_13 : decode cL_act 13 = .ok (.istore_n 3, 1) := by decide +kernel
theorem dL_act_14 : decode cL_act 14 = .ok (.iload_n 1, 1) := by decide +kernel
theorem dL_act_15 : decode cL_act 15 = .ok (.bipush 16, 2) := by decide +kernel
theorem dL_act_17 : decode cL_act 17 = .ok (.irem, 1) := by decide +kernel
theorem dL_act_18 : decode cL_act 18 = .ok (.tableswitch 250 0 8 #[50, 50, 50, 82, 103, 108, 152, 189, 225], 50) := by decide +kernel
theorem dL_act_68 : decode cL_act 68 = .ok (.aload_n 0, 1) := by decide +kernel
theorem dL_act_69 : decode cL_act 69 = .ok (.iload_n 2, 1) := by decide +kernel
theorem dL_act_70 : decode cL_act 70 = .ok (.bipush 7, 2) := by decide +kernel
theorem dL_act_72 : decode cL_act 72 = .ok (.irem, 1) := by decide +kernel
theorem dL_act_73 : decode cL_act 73 = .ok (.iload_n 2, 1) := by decide +kernel
theorem dL_act_74 : decode cL_act 74 = .ok (.bipush 7, 2) := by decide +kernel
theorem dL_act_76 : decode cL_act 76 = .ok (.idiv, 1) := by decide +kernel
theorem dL_act_77 : decode cL_act 77 = .ok (.bipush 7, 2) := by decide +kernel
theorem dL_act_79 : decode cL_act 79 = .ok (.irem, 1) := by decide +kernel
theorem dL_act_80 : decode cL_act 80 = .ok (.iload_n 2, 1) := by decide +kernel
theorem dL_act_81 : decode cL_act 81 = .ok (.bipush 49, 2) := by decide +kernel
theorem dL_act_83 : decode cL_act 83 = .ok (.idiv, 1) := by decide +kernel
theorem dL_act_84 : decode cL_act 84 = .ok (.bipush 7, 2) := by decide +kernel
theorem dL_act_86 : decode cL_act 86 = .ok (.irem, 1) := by decide +kernel
theorem dL_act_87 : decode cL_act 87 = .ok (.iconst 1, 1) := by decide +kernel
theorem dL_act_88 : decode cL_act 88 = .ok (.iload_n 2, 1) := by decide +kernel
theorem dL_act_89 : decode cL_act 89 = .ok (.sipush 343, 3) := by decide +kernel
theorem dL_act_92 : decode cL_act 92 = .ok (.idiv, 1) := by decide +kernel
theorem dL_act_93 : decode cL_act 93 = .ok (.iconst 4, 1) := by decide +kernel
theorem dL_act_94 : decode cL_act 94 = .ok (.irem, 1) := by decide +kernel
theorem dL_act_95 : decode cL_act 95 = .ok (.iadd, 1) := by decide +kernel
theorem dL_act_96 : decode cL_act 96 = .ok (.invokestatic 142, 3) := by decide +kernel
theorem dL_act_99 : decode cL_act 99 = .ok (.ireturn, 1) := by decide +kernel
theorem dL_act_100 : decode cL_act 100 = .ok (.iload_n 3, 1) := by decide +kernel
theorem dL_act_101 : decode cL_act 101 = .ok (.iconst 2, 1) := by decide +kernel
theorem dL_act_102 : decode cL_act 102 = .ok (.if_icmp .ge 7, 3) := by decide +kernel
theorem dL_act_105 : decode cL_act 105 = .ok (.iconst (-1), 1) := by decide +kernel
theorem dL_act_106 : decode cL_act 106 = .ok (.goto 14, 3) := by decide +kernel
theorem dL_act_109 : decode cL_act 109 = .ok (.aload_n 0, 1) := by decide +kernel
theorem dL_act_110 : decode cL_act 110 = .ok (.bipush 6, 2) := by decide +kernel
theorem dL_act_112 : decode cL_act 112 = .ok (.iload_n 2, 1) := by decide +kernel
theorem dL_act_113 : decode cL_act 113 = .ok (.iload_n 3, 1) := by decide +kernel
theorem dL_act_114 : decode cL_act 114 = .ok (.irem, 1) := by decide +kernel
theorem dL_act_115 : decode cL_act 115 = .ok (.iconst 0, 1) := by decide +kernel
theorem dL_act_116 : decode cL_act 116 = .ok (.iconst 0, 1) := by decide +kernel
theorem dL_act_117 : decode cL_act 117 = .ok (.invokestatic 138, 3) := by decide +kernel
theorem dL_act_120 : decode cL_act 120 = .ok (.ireturn, 1) := by decide +kernel
theorem dL_act_121 : decode cL_act 121 = .ok (.aload_n 0, 1) := by decide +kernel
theorem dL_act_122 : decode cL_act 122 = .ok (.invokevirtual 158, 3) := by decide +kernel
theorem dL_act_125 : decode cL_act 125 = .ok (.ireturn, 1) := by decide +kernel
theorem dL_act_126 : decode cL_act 126 = .ok (.iload_n 2, 1) := by decide +kernel
theorem dL_act_127 : decode cL_act 127 = .ok (.iconst 3, 1) := by decide +kernel
theorem dL_act_128 : decode cL_act 128 = .ok (.irem, 1) := by decide +kernel
theorem dL_act_129 : decode cL_act 129 = .ok (.ifCond .ne 22, 3) := by decide +kernel
theorem dL_act_132 : decode cL_act 132 = .ok (.aload_n 0, 1) := by decide +kernel
theorem dL_act_133 : decode cL_act 133 = .ok (.bipush 8, 2) := by decide +kernel
theorem dL_act_135 : decode cL_act 135 = .ok (.iconst 0, 1) := by decide +kernel
theorem dL_act_136 : decode cL_act 136 = .ok (.iconst 4, 1) := by decide +kernel
theorem dL_act_137 : decode cL_act 137 = .ok (.iload_n 2, 1) := by decide +kernel
theorem dL_act_138 : decode cL_act 138 = .ok (.iconst 3, 1) := by decide +kernel
theorem dL_act_139 : decode cL_act 139 = .ok (.idiv, 1) := by decide +kernel
theorem dL_act_140 : decode cL_act 140 = .ok (.bipush 13, 2) := by decide +kernel
theorem dL_act_142 : decode cL_act 142 = .ok (.irem, 1) := by decide +kernel
theorem dL_act_143 : decode cL_act 143 = .ok (.iadd, 1) := by decide +kernel
theorem dL_act_144 : decode cL_act 144 = .ok (.iconst 0, 1) := by decide +kernel
theorem dL_act_145 : decode cL_act 145 = .ok (.invokestatic 138, 3) := by decide +kernel
theorem dL_act_148 : decode cL_act 148 = .ok (.goto 21, 3) := by decide +kernel
theorem dL_act_151 : decode cL_act 151 = .ok (.aload_n 0, 1) := by decide +kernel
theorem dL_act_152 : decode cL_act 152 = .ok (.bipush 8, 2) := by decide +kernel
theorem dL_act_154 : decode cL_act 154 = .ok (.iload_n 2, 1) := by decide +kernel
theorem dL_act_155 : decode cL_act 155 = .ok (.iconst 3, 1) := by decide +kernel
theorem dL_act_156 : decode cL_act 156 = .ok (.irem, 1) := by decide +kernel
theorem dL_act_157 : decode cL_act 157 = .ok (.iconst 1, 1) := by decide +kernel
theorem dL_act_158 : decode cL_act 158 = .ok (.iload_n 2, 1) := by decide +kernel
theorem dL_act_159 : decode cL_act 159 = .ok (.iconst 3, 1) := by decide +kernel
theorem dL_act_160 : decode cL_act 160 = .ok (.idiv, 1) := by decide +kernel
theorem dL_act_161 : decode cL_act 161 = .ok (.bipush 9, 2) := by decide +kernel
theorem dL_act_163 : decode cL_act 163 = .ok (.irem, 1) := by decide +kernel
theorem dL_act_164 : decode cL_act 164 = .ok (.iadd, 1) := by decide +kernel
theorem dL_act_165 : decode cL_act 165 = .ok (.iconst 0, 1) := by decide +kernel
theorem dL_act_166 : decode cL_act 166 = .ok (.invokestatic 138, 3) := by decide +kernel
theorem dL_act_169 : decode cL_act 169 = .ok (.ireturn, 1) := by decide +kernel
theorem dL_act_170 : decode cL_act 170 = .ok (.aload_n 0, 1) := by decide +kernel
theorem dL_act_171 : decode cL_act 171 = .ok (.iconst 2, 1) := by decide +kernel
theorem dL_act_172 : decode cL_act 172 = .ok (.bipush 7, 2) := by decide +kernel
theorem dL_act_174 : decode cL_act 174 = .ok (.iconst 0, 1) := by decide +kernel
theorem dL_act_175 : decode cL_act 175 = .ok (.iconst 0, 1) := by decide +kernel
theorem dL_act_176 : decode cL_act 176 = .ok (.invokestatic 138, 3) := by decide +kernel
theorem dL_act_179 : decode cL_act 179 = .ok (.aload_n 0, 1) := by decide +kernel
theorem dL_act_180 : decode cL_act 180 = .ok (.iconst 2, 1) := by decide +kernel
theorem dL_act_181 : decode cL_act 181 = .ok (.bipush 8, 2) := by decide +kernel
theorem dL_act_183 : decode cL_act 183 = .ok (.iconst 0, 1) := by decide +kernel
theorem dL_act_184 : decode cL_act 184 = .ok (.iconst 0, 1) := by decide +kernel
theorem dL_act_185 : decode cL_act 185 = .ok (.invokestatic 138, 3) := by decide +kernel
theorem dL_act_188 : decode cL_act 188 = .ok (.iadd, 1) := by decide +kernel
theorem dL_act_189 : decode cL_act 189 = .ok (.iconst 2, 1) := by decide +kernel
theorem dL_act_190 : decode cL_act 190 = .ok (.if_icmp .ge 7, 3) := by decide +kernel
theorem dL_act_193 : decode cL_act 193 = .ok (.iconst (-1), 1) := by decide +kernel
theorem dL_act_194 : decode cL_act 194 = .ok (.goto 12, 3) := by decide +kernel
theorem dL_act_197 : decode cL_act 197 = .ok (.aload_n 0, 1) := by decide +kernel
theorem dL_act_198 : decode cL_act 198 = .ok (.bipush 9, 2) := by decide +kernel
theorem dL_act_200 : decode cL_act 200 = .ok (.iconst 0, 1) := by decide +kernel
theorem dL_act_201 : decode cL_act 201 = .ok (.iconst 0, 1) := by decide +kernel
theorem dL_act_202 : decode cL_act 202 = .ok (.iconst 0, 1) := by decide +kernel
theorem dL_act_203 : decode cL_act 203 = .ok (.invokestatic 138, 3) := by decide +kernel
theorem dL_act_206 : decode cL_act 206 = .ok (.ireturn, 1) := by decide +kernel
theorem dL_act_207 : decode cL_act 207 = .ok (.iload_n 2, 1) := by decide +kernel
theorem dL_act_208 : decode cL_act 208 = .ok (.iconst 2, 1) := by decide +kernel
theorem dL_act_209 : decode cL_act 209 = .ok (.irem, 1) := by decide +kernel
theorem dL_act_210 : decode cL_act 210 = .ok (.ifCond .ne 19, 3) := by decide +kernel
theorem dL_act_213 : decode cL_act 213 = .ok (.aload_n 0, 1) := by decide +kernel
theorem dL_act_214 : decode cL_act 214 = .ok (.bipush 14, 2) := by decide +kernel
theorem dL_act_216 : decode cL_act 216 = .ok (.iload_n 2, 1) := by decide +kernel
theorem dL_act_217 : decode cL_act 217 = .ok (.iconst 2, 1) := by decide +kernel
theorem dL_act_218 : decode cL_act 218 = .ok (.idiv, 1) := by decide +kernel
theorem dL_act_219 : decode cL_act 219 = .ok (.iconst 2, 1) := by decide +kernel
theorem dL_act_220 : decode cL_act 220 = .ok (.irem, 1) := by decide +kernel
theorem dL_act_221 : decode cL_act 221 = .ok (.iconst 0, 1) := by decide +kernel
theorem dL_act_222 : decode cL_act 222 = .ok (.iconst 0, 1) := by decide +kernel
theorem dL_act_223 : decode cL_act 223 = .ok (.invokestatic 138, 3) := by decide +kernel
theorem dL_act_226 : decode cL_act 226 = .ok (.goto 16, 3) := by decide +kernel
theorem dL_act_229 : decode cL_act 229 = .ok (.aload_n 0, 1) := by decide +kernel
theorem dL_act_230 : decode cL_act 230 = .ok (.bipush 15, 2) := by decide +kernel
theorem dL_act_232 : decode cL_act 232 = .ok (.iload_n 2, 1) := by decide +kernel
theorem dL_act_233 : decode cL_act 233 = .ok (.iconst 2, 1) := by decide +kernel
theorem dL_act_234 : decode cL_act 234 = .ok (.idiv, 1) := by decide +kernel
theorem dL_act_235 : decode cL_act 235 = .ok (.iconst 2, 1) := by decide +kernel
theorem dL_act_236 : decode cL_act 236 = .ok (.irem, 1) := by decide +kernel
theorem dL_act_237 : decode cL_act 237 = .ok (.iconst 0, 1) := by decide +kernel
theorem dL_act_238 : decode cL_act 238 = .ok (.iconst 0, 1) := by decide +kernel
theorem dL_act_239 : decode cL_act 239 = .ok (.invokestatic 138, 3) := by decide +kernel
theorem dL_act_242 : decode cL_act 242 = .ok (.ireturn, 1) := by decide +kernel
theorem dL_act_243 : decode cL_act 243 = .ok (.aload_n 0, 1) := by decide +kernel
theorem dL_act_244 : decode cL_act 244 = .ok (.invokevirtual 155, 3) := by decide +kernel
theorem dL_act_247 : decode cL_act 247 = .ok (.iconst (-1), 1) := by decide +kernel
theorem dL_act_248 : decode cL_act 248 = .ok (.if_icmp .ne 7, 3) := by decide +kernel
theorem dL_act_251 : decode cL_act 251 = .ok (.iconst (-1), 1) := by decide +kernel
theorem dL_act_252 : decode cL_act 252 = .ok (.goto 15, 3) := by decide +kernel
theorem dL_act_255 : decode cL_act 255 = .ok (.aload_n 0, 1) := by decide +kernel
theorem dL_act_256 : decode cL_act 256 = .ok (.bipush 7, 2) := by decide +kernel
theorem dL_act_258 : decode cL_act 258 = .ok (.aload_n 0, 1) := by decide +kernel
theorem dL_act_259 : decode cL_act 259 = .ok (.invokevirtual 155, 3) := by decide +kernel
theorem dL_act_262 : decode cL_act 262 = .ok (.iconst 0, 1) := by decide +kernel
theorem dL_act_263 : decode cL_act 263 = .ok (.iconst 0, 1) := by decide +kernel
theorem dL_act_264 : decode cL_act 264 = .ok (.invokestatic 138, 3) := by decide +kernel
theorem dL_act_267 : decode cL_act 267 = .ok (.ireturn, 1) := by decide +kernel
theorem dL_act_268 : decode cL_act 268 = .ok (.aload_n 0, 1) := by decide +kernel
theorem dL_act_269 : decode cL_act 269 = .ok (.bipush 7, 2) := by decide +kernel
theorem dL_act_271 : decode cL_act 271 = .ok (.iload_n 2, 1) := by decide +kernel
theorem dL_act_272 : decode cL_act 272 = .ok (.iload_n 3, 1) := by decide +kernel
theorem dL_act_273 : decode cL_act 273 = .ok (.irem, 1) := by decide +kernel
theorem dL_act_274 : decode cL_act 274 = .ok (.iconst 0, 1) := by decide +kernel
theorem dL_act_275 : decode cL_act 275 = .ok (.iconst 0, 1) := by decide +kernel
theorem dL_act_276 : decode cL_act 276 = .ok (.invokestatic 138, 3) := by decide +kernel
theorem dL_act_279 : decode cL_act 279 = .ok (.ireturn, 1) := by decide +kernel
theorem dL_alike_0 : decode cL_alike 0 = .ok (.aload_n 0, 1) := by decide +kernel
theorem dL_alike_1 : decode cL_alike 1 = .ok (.iload_n 2, 1) := by decide +kernel
theorem dL_alike_2 : decode cL_alike 2 = .ok (.i2l, 1) := by decide +kernel
theorem dL_alike_3 : decode cL_alike 3 = .ok (.iconst 1, 1) := by decide +kernel
theorem dL_alike_4 : decode cL_alike 4 = .ok (.iload_n 2, 1) := by decide +kernel
theorem dL_alike_5 : decode cL_alike 5 = .ok (.bipush 60, 2) := by decide +kernel
theorem dL_alike_7 : decode cL_alike 7 = .ok (.irem, 1) := by decide +kernel
theorem dL_alike_8 : decode cL_alike 8 = .ok (.iadd, 1) := by decide +kernel
theorem dL_alike_9 : decode cL_alike 9 = .ok (.invokestatic 151, 3) := by decide +kernel
theorem dL_alike_12 : decode cL_alike 12 = .ok (.aload_n 1, 1) := by decide +kernel
theorem dL_alike_13 : decode cL_alike 13 = .ok (.iload_n 2, 1) := by decide +kernel
theorem dL_alike_14 : decode cL_alike 14 = .ok (.i2l, 1) := by decide +kernel
theorem dL_alike_15 : decode cL_alike 15 = .ok (.iconst 1, 1) := by decide +kernel
theorem dL_alike_16 : decode cL_alike 16 = .ok (.iload_n 2, 1) := by decide +kernel
theorem dL_alike_17 : decode cL_alike 17 = .ok (.bipush 60, 2) := by decide +kernel
theorem dL_alike_19 : decode cL_alike 19 = .ok (.irem, 1) := by decide +kernel
theorem dL_alike_20 : decode cL_alike 20 = .ok (.iadd, 1) := by decide +kernel
theorem dL_alike_21 : decode cL_alike 21 = .ok (.invokestatic 151, 3) := by decide +kernel
theorem dL_alike_24 : decode cL_alike 24 = .ok (.if_icmp .ne 18, 3) := by decide +kernel
theorem dL_alike_27 : decode cL_alike 27 = .ok (.aload_n 0, 1) := by decide +kernel
theorem dL_alike_28 : decode cL_alike 28 = .ok (.invokevirtual 155, 3) := by decide +kernel
theorem dL_alike_31 : decode cL_alike 31 = .ok (.aload_n 1, 1) := by decide +kernel
theorem dL_alike_32 : decode cL_alike 32 = .ok (.invokevirtual 155, 3) := by decide +kernel
theorem dL_alike_35 : decode cL_alike 35 = .ok (.if_icmp .ne 7, 3) := by decide +kernel
theorem dL_alike_38 : decode cL_alike 38 = .ok (.iconst 1, 1) := by decide +kernel
theorem dL_alike_39 : decode cL_alike 39 = .ok (.goto 4, 3) := by decide +kernel
theorem dL_alike_42 : decode cL_alike 42 = .ok (.iconst 0, 1) := by decide +kernel
theorem dL_alike_43 : decode cL_alike 43 = .ok (.istore_n 3, 1) := by decide +kernel
theorem dL_alike_44 : decode cL_alike 44 = .ok (.iconst 0, 1) := by decide +kernel
theorem dL_alike_45 : decode cL_alike 45 = .ok (.istore 4, 2) := by decide +kernel
theorem dL_alike_47 : decode cL_alike 47 = .ok (.iload 4, 2) := by decide +kernel
theorem dL_alike_49 : decode cL_alike 49 = .ok (.bipush 12, 2) := by decide +kernel
theorem dL_alike_51 : decode cL_alike 51 = .ok (.if_icmp .ge 113, 3) := by decide +kernel
theorem dL_alike_54 : decode cL_alike 54 = .ok (.iload_n 3, 1) := by decide +kernel
theorem dL_alike_55 : decode cL_alike 55 = .ok (.ifCond .eq 109, 3) := by decide +kernel
theorem dL_alike_58 : decode cL_alike 58 = .ok (.aload_n 0, 1) := by decide +kernel
theorem dL_alike_59 : decode cL_alike 59 = .ok (.iconst 2, 1) := by decide +kernel
theorem dL_alike_60 : decode cL_alike 60 = .ok (.iload 4, 2) := by decide +kernel
theorem dL_alike_62 : decode cL_alike 62 = .ok (.iconst 0, 1) := by decide +kernel
theorem dL_alike_63 : decode cL_alike 63 = .ok (.iconst 0, 1) := by decide +kernel
theorem dL_alike_64 : decode cL_alike 64 = .ok (.invokestatic 138, 3) := by decide +kernel
theorem dL_alike_67 : decode cL_alike 67 = .ok (.aload_n 1, 1) := by decide +kernel
theorem dL_alike_68 : decode cL_alike 68 = .ok (.iconst 2, 1) := by decide +kernel
theorem dL_alike_69 : decode cL_alike 69 = .ok (.iload 4, 2) := by decide +kernel
theorem dL_alike_71 : decode cL_alike 71 = .ok (.iconst 0, 1) := by decide +kernel
theorem dL_alike_72 : decode cL_alike 72 = .ok (.iconst 0, 1) := by decide +kernel
theorem dL_alike_73 : decode cL_alike 73 = .ok (.invokestatic 138, 3) := by decide +kernel
theorem dL_alike_76 : decode cL_alike 76 = .ok (.if_icmp .ne 80, 3) := by decide +kernel
theorem dL_alike_79 : decode cL_alike 79 = .ok (.aload_n 0, 1) := by decide +kernel
theorem dL_alike_80 : decode cL_alike 80 = .ok (.iconst 3, 1) := by decide +kernel
theorem dL_alike_81 : decode cL_alike 81 = .ok (.iload 4, 2) := by decide +kernel
theorem dL_alike_83 : decode cL_alike 83 = .ok (.iload_n 2, 1) := by decide +kernel
theorem dL_alike_84 : decode cL_alike 84 = .ok (.bipush 8, 2) := by decide +kernel
theorem dL_alike_86 : decode cL_alike 86 = .ok (.irem, 1) := by decide +kernel
theorem dL_alike_87 : decode cL_alike 87 = .ok (.iconst 0, 1) := by decide +kernel
theorem dL_alike_88 : decode cL_alike 88 = .ok (.invokestatic 138, 3) := by decide +kernel
theorem dL_alike_91 : decode cL_alike 91 = .ok (.aload_n 1, 1) := by decide +kernel
theorem dL_alike_92 : decode cL_alike 92 = .ok (.iconst 3, 1) := by decide +kernel
theorem dL_alike_93 : decode cL_alike 93 = .ok (.iload 4, 2) := by decide +kernel
theorem dL_alike_95 : decode cL_alike 95 = .ok (.iload_n 2, 1) := by decide +kernel
theorem dL_alike_96 : decode cL_alike 96 = .ok (.bipush 8, 2) := by decide +kernel
theorem dL_alike_98 : decode cL_alike 98 = .ok (.irem, 1) := by decide +kernel
theorem dL_alike_99 : decode cL_alike 99 = .ok (.iconst 0, 1) := by decide +kernel
theorem dL_alike_100 : decode cL_alike 100 = .ok (.invokestatic 138, 3) := by decide +kernel
theorem dL_alike_103 : decode cL_alike 103 = .ok (.if_icmp .ne 53, 3) := by decide +kernel
theorem dL_alike_106 : decode cL_alike 106 = .ok (.aload_n 0, 1) := by decide +kernel
theorem dL_alike_107 : decode cL_alike 107 = .ok (.iconst 4, 1) := by decide +kernel
theorem dL_alike_108 : decode cL_alike 108 = .ok (.iload 4, 2) := by decide +kernel
theorem dL_alike_110 : decode cL_alike 110 = .ok (.iload_n 2, 1) := by decide +kernel
theorem dL_alike_111 : decode cL_alike 111 = .ok (.iconst 3, 1) := by decide +kernel
theorem dL_alike_112 : decode cL_alike 112 = .ok (.irem, 1) := by decide +kernel
theorem dL_alike_113 : decode cL_alike 113 = .ok (.iconst 0, 1) := by decide +kernel
theorem dL_alike_114 : decode cL_alike 114 = .ok (.invokestatic 138, 3) := by decide +kernel
theorem dL_alike_117 : decode cL_alike 117 = .ok (.aload_n 1, 1) := by decide +kernel
theorem dL_alike_118 : decode cL_alike 118 = .ok (.iconst 4, 1) := by decide +kernel
theorem dL_alike_119 : decode cL_alike 119 = .ok (.iload 4, 2) := by decide +kernel
theorem dL_alike_121 : decode cL_alike 121 = .ok (.iload_n 2, 1) := by decide +kernel
theorem dL_alike_122 : decode cL_alike 122 = .ok (.iconst 3, 1) := by decide +kernel
theorem dL_alike_123 : decode cL_alike 123 = .ok (.irem, 1) := by decide +kernel
theorem dL_alike_124 : decode cL_alike 124 = .ok (.iconst 0, 1) := by decide +kernel
theorem dL_alike_125 : decode cL_alike 125 = .ok (.invokestatic 138, 3) := by decide +kernel
theorem dL_alike_128 : decode cL_alike 128 = .ok (.if_icmp .ne 28, 3) := by decide +kernel
theorem dL_alike_131 : decode cL_alike 131 = .ok (.aload_n 0, 1) := by decide +kernel
theorem dL_alike_132 : decode cL_alike 132 = .ok (.iconst 5, 1) := by decide +kernel
theorem dL_alike_133 : decode cL_alike 133 = .ok (.iload 4, 2) := by decide +kernel
theorem dL_alike_135 : decode cL_alike 135 = .ok (.iconst 0, 1) := by decide +kernel
theorem dL_alike_136 : decode cL_alike 136 = .ok (.iconst 0, 1) := by decide +kernel
theorem dL_alike_137 : decode cL_alike 137 = .ok (.invokestatic 138, 3) := by decide +kernel
theorem dL_alike_140 : decode cL_alike 140 = .ok (.aload_n 1, 1) := by decide +kernel
theorem dL_alike_141 : decode cL_alike 141 = .ok (.iconst 5, 1) := by decide +kernel
theorem dL_alike_142 : decode cL_alike 142 = .ok (.iload 4, 2) := by decide +kernel
theorem dL_alike_144 : decode cL_alike 144 = .ok (.iconst 0, 1) := by decide +kernel
theorem dL_alike_145 : decode cL_alike 145 = .ok (.iconst 0, 1) := by decide +kernel
theorem dL_alike_146 : decode cL_alike 146 = .ok (.invokestatic 138, 3) := by decide +kernel
theorem dL_alike_149 : decode cL_alike 149 = .ok (.if_icmp .ne 7, 3) := by decide +kernel
theorem dL_alike_152 : decode cL_alike 152 = .ok (.iconst 1, 1) := by decide +kernel
theorem dL_alike_153 : decode cL_alike 153 = .ok (.goto 4, 3) := by decide +kernel
theorem dL_alike_156 : decode cL_alike 156 = .ok (.iconst 0, 1) := by decide +kernel
theorem dL_alike_157 : decode cL_alike 157 = .ok (.istore_n 3, 1) := by decide +kernel
theorem dL_alike_158 : decode cL_alike 158 = .ok (.iinc 4 1, 3) := by decide +kernel
theorem dL_alike_161 : decode cL_alike 161 = .ok (.goto (-114), 3) := by decide +kernel
theorem dL_alike_164 : decode cL_alike 164 = .ok (.iload_n 3, 1) := by decide +kernel
theorem dL_alike_165 : decode cL_alike 165 = .ok (.ireturn, 1) := by decide +kernel
theorem dL_law_0 : decode cL_law 0 = .ok (.new 8, 3) := by decide +kernel
theorem dL_law_3 : decode cL_law 3 = .ok (.dup, 1) := by decide +kernel
theorem dL_law_4 : decode cL_law 4 = .ok (.invokespecial 161, 3) := by decide +kernel
theorem dL_law_7 : decode cL_law 7 = .ok (.astore_n 1, 1) := by decide +kernel
theorem dL_law_8 : decode cL_law 8 = .ok (.new 8, 3) := by decide +kernel
theorem dL_law_11 : decode cL_law 11 = .ok (.dup, 1) := by decide +kernel
theorem dL_law_12 : decode cL_law 12 = .ok (.invokespecial 161, 3) := by decide +kernel
theorem dL_law_15 : decode cL_law 15 = .ok (.astore_n 2, 1) := by decide +kernel
theorem dL_law_16 : decode cL_law 16 = .ok (.bipush 14, 2) := by decide +kernel
theorem dL_law_18 : decode cL_law 18 = .ok (.aload_n 0, 1) := by decide +kernel
theorem dL_law_19 : decode cL_law 19 = .ok (.iconst 0, 1) := by decide +kernel
theorem dL_law_20 : decode cL_law 20 = .ok (.invokestatic 162, 3) := by decide +kernel
theorem dL_law_23 : decode cL_law 23 = .ok (.bipush 27, 2) := by decide +kernel
theorem dL_law_25 : decode cL_law 25 = .ok (.irem, 1) := by decide +kernel
theorem dL_law_26 : decode cL_law 26 = .ok (.iadd, 1) := by decide +kernel
theorem dL_law_27 : decode cL_law 27 = .ok (.istore_n 3, 1) := by decide +kernel
theorem dL_law_28 : decode cL_law 28 = .ok (.aload_n 0, 1) := by decide +kernel
theorem dL_law_29 : decode cL_law 29 = .ok (.iconst 1, 1) := by decide +kernel
theorem dL_law_30 : decode cL_law 30 = .ok (.invokestatic 162, 3) := by decide +kernel
theorem dL_law_33 : decode cL_law 33 = .ok (.istore 4, 2) := by decide +kernel
theorem dL_law_35 : decode cL_law 35 = .ok (.aload_n 1, 1) := by decide +kernel
theorem dL_law_36 : decode cL_law 36 = .ok (.iload 4, 2) := by decide +kernel
theorem dL_law_38 : decode cL_law 38 = .ok (.bipush 7, 2) := by decide +kernel
theorem dL_law_40 : decode cL_law 40 = .ok (.irem, 1) := by decide +kernel
theorem dL_law_41 : decode cL_law 41 = .ok (.iload 4, 2) := by decide +kernel
theorem dL_law_43 : decode cL_law 43 = .ok (.bipush 7, 2) := by decide +kernel
theorem dL_law_45 : decode cL_law 45 = .ok (.idiv, 1) := by decide +kernel
theorem dL_law_46 : decode cL_law 46 = .ok (.bipush 7, 2) := by decide +kernel
theorem dL_law_48 : decode cL_law 48 = .ok (.irem, 1) := by decide +kernel
theorem dL_law_49 : decode cL_law 49 = .ok (.iload 4, 2) := by decide +kernel
theorem dL_law_51 : decode cL_law 51 = .ok (.bipush 49, 2) := by decide +kernel
theorem dL_law_53 : decode cL_law 53 = .ok (.idiv, 1) := by decide +kernel
theorem dL_law_54 : decode cL_law 54 = .ok (.bipush 7, 2) := by decide +kernel
theorem dL_law_56 : decode cL_law 56 = .ok (.irem, 1) := by decide +kernel
theorem dL_law_57 : decode cL_law 57 = .ok (.iconst 1, 1) := by decide +kernel
theorem dL_law_58 : decode cL_law 58 = .ok (.iload 4, 2) := by decide +kernel
theorem dL_law_60 : decode cL_law 60 = .ok (.sipush 343, 3) := by decide +kernel
theorem dL_law_63 : decode cL_law 63 = .ok (.idiv, 1) := by decide +kernel
theorem dL_law_64 : decode cL_law 64 = .ok (.iconst 4, 1) := by decide +kernel
theorem dL_law_65 : decode cL_law 65 = .ok (.irem, 1) := by decide +kernel
theorem dL_law_66 : decode cL_law 66 = .ok (.iadd, 1) := by decide +kernel
theorem dL_law_67 : decode cL_law 67 = .ok (.invokestatic 142, 3) := by decide +kernel
theorem dL_law_70 : decode cL_law 70 = .ok (.ifCond .ne 115, 3) := by decide +kernel
theorem dL_law_73 : decode cL_law 73 = .ok (.aload_n 2, 1) := by decide +kernel
theorem dL_law_74 : decode cL_law 74 = .ok (.iload 4, 2) := by decide +kernel
theorem dL_law_76 : decode cL_law 76 = .ok (.bipush 7, 2) := by decide +kernel
theorem dL_law_78 : decode cL_law 78 = .ok (.irem, 1) := by decide +kernel
theorem dL_law_79 : decode cL_law 79 = .ok (.iload 4, 2) := by decide +kernel
theorem dL_law_81 : decode cL_law 81 = .ok (.bipush 7, 2) := by decide +kernel
theorem dL_law_83 : decode cL_law 83 = .ok (.idiv, 1) := by decide +kernel
theorem dL_law_84 : decode cL_law 84 = .ok (.bipush 7, 2) := by decide +kernel
theorem dL_law_86 : decode cL_law 86 = .ok (.irem, 1) := by decide +kernel
theorem dL_law_87 : decode cL_law 87 = .ok (.iload 4, 2) := by decide +kernel
theorem dL_law_89 : decode cL_law 89 = .ok (.bipush 49, 2) := by decide +kernel
theorem dL_law_91 : decode cL_law 91 = .ok (.idiv, 1) := by decide +kernel
theorem dL_law_92 : decode cL_law 92 = .ok (.bipush 7, 2) := by decide +kernel
theorem dL_law_94 : decode cL_law 94 = .ok (.irem, 1) := by decide +kernel
theorem dL_law_95 : decode cL_law 95 = .ok (.iconst 1, 1) := by decide +kernel
theorem dL_law_96 : decode cL_law 96 = .ok (.iload 4, 2) := by decide +kernel
theorem dL_law_98 : decode cL_law 98 = .ok (.sipush 343, 3) := by decide +kernel
theorem dL_law_101 : decode cL_law 101 = .ok (.idiv, 1) := by decide +kernel
theorem dL_law_102 : decode cL_law 102 = .ok (.iconst 4, 1) := by decide +kernel
theorem dL_law_103 : decode cL_law 103 = .ok (.irem, 1) := by decide +kernel
theorem dL_law_104 : decode cL_law 104 = .ok (.iadd, 1) := by decide +kernel
theorem dL_law_105 : decode cL_law 105 = .ok (.invokestatic 142, 3) := by decide +kernel
theorem dL_law_108 : decode cL_law 108 = .ok (.ifCond .ne 77, 3) := by decide +kernel
theorem dL_law_111 : decode cL_law 111 = .ok (.aload_n 1, 1) := by decide +kernel
theorem dL_law_112 : decode cL_law 112 = .ok (.iload 4, 2) := by decide +kernel
theorem dL_law_114 : decode cL_law 114 = .ok (.sipush 1372, 3) := by decide +kernel
theorem dL_law_117 : decode cL_law 117 = .ok (.idiv, 1) := by decide +kernel
theorem dL_law_118 : decode cL_law 118 = .ok (.bipush 7, 2) := by decide +kernel
theorem dL_law_120 : decode cL_law 120 = .ok (.irem, 1) := by decide +kernel
theorem dL_law_121 : decode cL_law 121 = .ok (.iload 4, 2) := by decide +kernel
theorem dL_law_123 : decode cL_law 123 = .ok (.sipush 9604, 3) := by decide +kernel
theorem dL_law_126 : decode cL_law 126 = .ok (.idiv, 1) := by decide +kernel
theorem dL_law_127 : decode cL_law 127 = .ok (.bipush 7, 2) := by decide +kernel
theorem dL_law_129 : decode cL_law 129 = .ok (.irem, 1) := by decide +kernel
theorem dL_law_130 : decode cL_law 130 = .ok (.iload 4, 2) := by decide +kernel
theorem dL_law_132 : decode cL_law 132 = .ok (.ldc 166, 2) := by decide +kernel
theorem dL_law_134 : decode cL_law 134 = .ok (.idiv, 1) := by decide +kernel
theorem dL_law_135 : decode cL_law 135 = .ok (.bipush 7, 2) := by decide +kernel
theorem dL_law_137 : decode cL_law 137 = .ok (.irem, 1) := by decide +kernel
theorem dL_law_138 : decode cL_law 138 = .ok (.iconst 2, 1) := by decide +kernel
theorem dL_law_139 : decode cL_law 139 = .ok (.invokestatic 142, 3) := by decide +kernel
theorem dL_law_142 : decode cL_law 142 = .ok (.iconst 1, 1) := by decide +kernel
theorem dL_law_143 : decode cL_law 143 = .ok (.if_icmp .ne 42, 3) := by decide +kernel
theorem dL_law_146 : decode cL_law 146 = .ok (.aload_n 2, 1) := by decide +kernel
theorem dL_law_147 : decode cL_law 147 = .ok (.iload 4, 2) := by decide +kernel
theorem dL_law_149 : decode cL_law 149 = .ok (.sipush 1372, 3) := by decide +kernel
theorem dL_law_152 : decode cL_law 152 = .ok (.idiv, 1) := by decide +kernel
theorem dL_law_153 : decode cL_law 153 = .ok (.bipush 7, 2) := by decide +kernel
theorem dL_law_155 : decode cL_law 155 = .ok (.irem, 1) := by decide +kernel
theorem dL_law_156 : decode cL_law 156 = .ok (.iload 4, 2) := by decide +kernel
theorem dL_law_158 : decode cL_law 158 = .ok (.sipush 9604, 3) := by decide +kernel
theorem dL_law_161 : decode cL_law 161 = .ok (.idiv, 1) := by decide +kernel
theorem dL_law_162 : decode cL_law 162 = .ok (.bipush 7, 2) := by decide +kernel
theorem dL_law_164 : decode cL_law 164 = .ok (.irem, 1) := by decide +kernel
theorem dL_law_165 : decode cL_law 165 = .ok (.iload 4, 2) := by decide +kernel
theorem dL_law_167 : decode cL_law 167 = .ok (.ldc 166, 2) := by decide +kernel
theorem dL_law_169 : decode cL_law 169 = .ok (.idiv, 1) := by decide +kernel
theorem dL_law_170 : decode cL_law 170 = .ok (.bipush 7, 2) := by decide +kernel
theorem dL_law_172 : decode cL_law 172 = .ok (.irem, 1) := by decide +kernel
theorem dL_law_173 : decode cL_law 173 = .ok (.iconst 2, 1) := by decide +kernel
theorem dL_law_174 : decode cL_law 174 = .ok (.invokestatic 142, 3) := by decide +kernel
theorem dL_law_177 : decode cL_law 177 = .ok (.iconst 1, 1) := by decide +kernel
theorem dL_law_178 : decode cL_law 178 = .ok (.if_icmp .ne 7, 3) := by decide +kernel
theorem dL_law_181 : decode cL_law 181 = .ok (.iconst 1, 1) := by decide +kernel
theorem dL_law_182 : decode cL_law 182 = .ok (.goto 4, 3) := by decide +kernel
theorem dL_law_185 : decode cL_law 185 = .ok (.iconst 0, 1) := by decide +kernel
theorem dL_law_186 : decode cL_law 186 = .ok (.istore 5, 2) := by decide +kernel
theorem dL_law_188 : decode cL_law 188 = .ok (.iconst 0, 1) := by decide +kernel
theorem dL_law_189 : decode cL_law 189 = .ok (.istore 6, 2) := by decide +kernel
theorem dL_law_191 : decode cL_law 191 = .ok (.iload 6, 2) := by decide +kernel
theorem dL_law_193 : decode cL_law 193 = .ok (.iload_n 3, 1) := by decide +kernel
theorem dL_law_194 : decode cL_law 194 = .ok (.if_icmp .ge 134, 3) := by decide +kernel
theorem dL_law_197 : decode cL_law 197 = .ok (.iload 5, 2) := by decide +kernel
theorem dL_law_199 : decode cL_law 199 = .ok (.ifCond .eq 129, 3) := by decide +kernel
theorem dL_law_202 : decode cL_law 202 = .ok (.aload_n 0, 1) := by decide +kernel
theorem dL_law_203 : decode cL_law 203 = .ok (.iconst 2, 1) := by decide +kernel
theorem dL_law_204 : decode cL_law 204 = .ok (.iload 6, 2) := by decide +kernel
theorem dL_law_206 : decode cL_law 206 = .ok (.iadd, 1) := by decide +kernel
theorem dL_law_207 : decode cL_law 207 = .ok (.invokestatic 162, 3) := by decide +kernel
theorem dL_law_210 : decode cL_law 210 = .ok (.istore 7, 2) := by decide +kernel
theorem dL_law_212 : decode cL_law 212 = .ok (.aload_n 1, 1) := by decide +kernel
theorem dL_law_213 : decode cL_law 213 = .ok (.iload 7, 2) := by decide +kernel
theorem dL_law_215 : decode cL_law 215 = .ok (.invokestatic 167, 3) := by decide +kernel
theorem dL_law_218 : decode cL_law 218 = .ok (.istore 8, 2) := by decide +kernel
theorem dL_law_220 : decode cL_law 220 = .ok (.aload_n 2, 1) := by decide +kernel
theorem dL_law_221 : decode cL_law 221 = .ok (.iload 7, 2) := by decide +kernel
theorem dL_law_223 : decode cL_law 223 = .ok (.ldc 170, 2) := by decide +kernel
theorem dL_law_225 : decode cL_law 225 = .ok (.irem, 1) := by decide +kernel
theorem dL_law_226 : decode cL_law 226 = .ok (.invokestatic 171, 3) := by decide +kernel
theorem dL_law_229 : decode cL_law 229 = .ok (.ifCond .eq 90, 3) := by decide +kernel
theorem dL_law_232 : decode cL_law 232 = .ok (.aload_n 2, 1) := by decide +kernel
theorem dL_law_233 : decode cL_law 233 = .ok (.iload 7, 2) := by decide +kernel
theorem dL_law_235 : decode cL_law 235 = .ok (.invokestatic 167, 3) := by decide +kernel
theorem dL_law_238 : decode cL_law 238 = .ok (.iload 8, 2) := by decide +kernel
theorem dL_law_240 : decode cL_law 240 = .ok (.if_icmp .ne 79, 3) := by decide +kernel
theorem dL_law_243 : decode cL_law 243 = .ok (.aload_n 2, 1) := by decide +kernel
theorem dL_law_244 : decode cL_law 244 = .ok (.iload 7, 2) := by decide +kernel
theorem dL_law_246 : decode cL_law 246 = .ok (.sipush 1000, 3) := by decide +kernel
theorem dL_law_249 : decode cL_law 249 = .ok (.irem, 1) := by decide +kernel
theorem dL_law_250 : decode cL_law 250 = .ok (.invokestatic 171, 3) := by decide +kernel
theorem dL_law_253 : decode cL_law 253 = .ok (.ifCond .eq 66, 3) := by decide +kernel
theorem dL_law_256 : decode cL_law 256 = .ok (.aload_n 1, 1) := by decide +kernel
theorem dL_law_257 : decode cL_law 257 = .ok (.aload_n 2, 1) := by decide +kernel
theorem dL_law_258 : decode cL_law 258 = .ok (.iload 7, 2) := by decide +kernel
theorem dL_law_260 : decode cL_law 260 = .ok (.sipush 5000, 3) := by decide +kernel
theorem dL_law_263 : decode cL_law 263 = .ok (.irem, 1) := by decide +kernel
theorem dL_law_264 : decode cL_law 264 = .ok (.invokestatic 175, 3) := by decide +kernel
theorem dL_law_267 : decode cL_law 267 = .ok (.ifCond .eq 52, 3) := by decide +kernel
theorem dL_law_270 : decode cL_law 270 = .ok (.iload 6, 2) := by decide +kernel
theorem dL_law_272 : decode cL_law 272 = .ok (.iconst 2, 1) := by decide +kernel
theorem dL_law_273 : decode cL_law 273 = .ok (.irem, 1) := by decide +kernel
theorem dL_law_274 : decode cL_law 274 = .ok (.ifCond .ne 13, 3) := by decide +kernel
theorem dL_law_277 : decode cL_law 277 = .ok (.aload_n 1, 1) := by decide +kernel
theorem dL_law_278 : decode cL_law 278 = .ok (.invokestatic 179, 3) := by decide +kernel
theorem dL_law_281 : decode cL_law 281 = .ok (.ifCond .eq 38, 3) := by decide +kernel
theorem dL_law_284 : decode cL_law 284 = .ok (.goto 10, 3) := by decide +kernel
theorem dL_law_287 : decode cL_law 287 = .ok (.aload_n 2, 1) := by decide +kernel
theorem dL_law_288 : decode cL_law 288 = .ok (.invokestatic 179, 3) := by decide +kernel
theorem dL_law_291 : decode cL_law 291 = .ok (.ifCond .eq 28, 3) := by decide +kernel
theorem dL_law_294 : decode cL_law 294 = .ok (.aload_n 1, 1) := by decide +kernel
theorem dL_law_295 : decode cL_law 295 = .ok (.aload_n 2, 1) := by decide +kernel
theorem dL_law_296 : decode cL_law 296 = .ok (.iload 7, 2) := by decide +kernel
theorem dL_law_298 : decode cL_law 298 = .ok (.bipush 7, 2) := by decide +kernel
theorem dL_law_300 : decode cL_law 300 = .ok (.idiv, 1) := by decide +kernel
theorem dL_law_301 : decode cL_law 301 = .ok (.invokestatic 183, 3) := by decide +kernel
theorem dL_law_304 : decode cL_law 304 = .ok (.ifCond .eq 15, 3) := by decide +kernel
theorem dL_law_307 : decode cL_law 307 = .ok (.aload_n 1, 1) := by decide +kernel
theorem dL_law_308 : decode cL_law 308 = .ok (.aload_n 2, 1) := by decide +kernel
theorem dL_law_309 : decode cL_law 309 = .ok (.invokestatic 186, 3) := by decide +kernel
theorem dL_law_312 : decode cL_law 312 = .ok (.ifCond .eq 7, 3) := by decide +kernel
theorem dL_law_315 : decode cL_law 315 = .ok (.iconst 1, 1) := by decide +kernel
theorem dL_law_316 : decode cL_law 316 = .ok (.goto 4, 3) := by decide +kernel
theorem dL_law_319 : decode cL_law 319 = .ok (.iconst 0, 1) := by decide +kernel
theorem dL_law_320 : decode cL_law 320 = .ok (.istore 5, 2) := by decide +kernel
theorem dL_law_322 : decode cL_law 322 = .ok (.iinc 6 1, 3) := by decide +kernel
theorem dL_law_325 : decode cL_law 325 = .ok (.goto (-134), 3) := by decide +kernel
theorem dL_law_328 : decode cL_law 328 = .ok (.iload 5, 2) := by decide +kernel
theorem dL_law_330 : decode cL_law 330 = .ok (.ireturn, 1) := by decide +kernel
theorem dL_presses_0 : decode cL_presses 0 = .ok (.iload_n 2, 1) := by decide +kernel
theorem dL_presses_1 : decode cL_presses 1 = .ok (.aload_n 0, 1) := by decide +kernel
theorem dL_presses_2 : decode cL_presses 2 = .ok (.iconst 2, 1) := by decide +kernel
theorem dL_presses_3 : decode cL_presses 3 = .ok (.iconst 0, 1) := by decide +kernel
theorem dL_presses_4 : decode cL_presses 4 = .ok (.iconst 0, 1) := by decide +kernel
theorem dL_presses_5 : decode cL_presses 5 = .ok (.iconst 0, 1) := by decide +kernel
theorem dL_presses_6 : decode cL_presses 6 = .ok (.invokestatic 138, 3) := by decide +kernel
theorem dL_presses_9 : decode cL_presses 9 = .ok (.irem, 1) := by decide +kernel
theorem dL_presses_10 : decode cL_presses 10 = .ok (.istore_n 3, 1) := by decide +kernel
theorem dL_presses_11 : decode cL_presses 11 = .ok (.aload_n 0, 1) := by decide +kernel
theorem dL_presses_12 : decode cL_presses 12 = .ok (.bipush 10, 2) := by decide +kernel
theorem dL_presses_14 : decode cL_presses 14 = .ok (.iload_n 3, 1) := by decide +kernel
theorem dL_presses_15 : decode cL_presses 15 = .ok (.iconst 0, 1) := by decide +kernel
theorem dL_presses_16 : decode cL_presses 16 = .ok (.iconst 0, 1) := by decide +kernel
theorem dL_presses_17 : decode cL_presses 17 = .ok (.invokestatic 138, 3) := by decide +kernel
theorem dL_presses_20 : decode cL_presses 20 = .ok (.istore 4, 2) := by decide +kernel
theorem dL_presses_22 : decode cL_presses 22 = .ok (.aload_n 0, 1) := by decide +kernel
theorem dL_presses_23 : decode cL_presses 23 = .ok (.bipush 13, 2) := by decide +kernel
theorem dL_presses_25 : decode cL_presses 25 = .ok (.iload_n 3, 1) := by decide +kernel
theorem dL_presses_26 : decode cL_presses 26 = .ok (.iconst 0, 1) := by decide +kernel
theorem dL_presses_27 : decode cL_presses 27 = .ok (.iconst 0, 1) := by decide +kernel
theorem dL_presses_28 : decode cL_presses 28 = .ok (.invokestatic 138, 3) := by decide +kernel
theorem dL_presses_31 : decode cL_presses 31 = .ok (.istore 5, 2) := by decide +kernel
theorem dL_presses_33 : decode cL_presses 33 = .ok (.aload_n 0, 1) := by decide +kernel
theorem dL_presses_34 : decode cL_presses 34 = .ok (.iconst 3, 1) := by decide +kernel
theorem dL_presses_35 : decode cL_presses 35 = .ok (.iload_n 3, 1) := by decide +kernel
theorem dL_presses_36 : decode cL_presses 36 = .ok (.iconst 0, 1) := by decide +kernel
theorem dL_presses_37 : decode cL_presses 37 = .ok (.iconst 0, 1) := by decide +kernel
theorem dL_presses_38 : decode cL_presses 38 = .ok (.invokestatic 138, 3) := by decide +kernel
theorem dL_presses_41 : decode cL_presses 41 = .ok (.istore 6, 2) := by decide +kernel
theorem dL_presses_43 : decode cL_presses 43 = .ok (.aload_n 0, 1) := by decide +kernel
theorem dL_presses_44 : decode cL_presses 44 = .ok (.iconst 2, 1) := by decide +kernel
theorem dL_presses_45 : decode cL_presses 45 = .ok (.iconst 1, 1) := by decide +kernel
theorem dL_presses_46 : decode cL_presses 46 = .ok (.iconst 0, 1) := by decide +kernel
theorem dL_presses_47 : decode cL_presses 47 = .ok (.iconst 0, 1) := by decide +kernel
theorem dL_presses_48 : decode cL_presses 48 = .ok (.invokestatic 138, 3) := by decide +kernel
theorem dL_presses_51 : decode cL_presses 51 = .ok (.istore 7, 2) := by decide +kernel
theorem dL_presses_53 : decode cL_presses 53 = .ok (.iload 6, 2) := by decide +kernel
theorem dL_presses_55 : decode cL_presses 55 = .ok (.iload 7, 2) := by decide +kernel
theorem dL_presses_57 : decode cL_presses 57 = .ok (.if_icmp .le 11, 3) := by decide +kernel
theorem dL_presses_60 : decode cL_presses 60 = .ok (.iload 6, 2) := by decide +kernel
theorem dL_presses_62 : decode cL_presses 62 = .ok (.iload 7, 2) := by decide +kernel
theorem dL_presses_64 : decode cL_presses 64 = .ok (.isub, 1) := by decide +kernel
theorem dL_presses_65 : decode cL_presses 65 = .ok (.goto 8, 3) := by decide +kernel
theorem dL_presses_68 : decode cL_presses 68 = .ok (.iload 7, 2) := by decide +kernel
theorem dL_presses_70 : decode cL_presses 70 = .ok (.iload 6, 2) := by decide +kernel
theorem dL_presses_72 : decode cL_presses 72 = .ok (.isub, 1) := by decide +kernel
theorem dL_presses_73 : decode cL_presses 73 = .ok (.istore 8, 2) := by decide +kernel
theorem dL_presses_75 : decode cL_presses 75 = .ok (.aload_n 0, 1) := by decide +kernel
theorem dL_presses_76 : decode cL_presses 76 = .ok (.iconst 2, 1) := by decide +kernel
theorem dL_presses_77 : decode cL_presses 77 = .ok (.bipush 6, 2) := by decide +kernel
theorem dL_presses_79 : decode cL_presses 79 = .ok (.iconst 0, 1) := by decide +kernel
theorem dL_presses_80 : decode cL_presses 80 = .ok (.iconst 0, 1) := by decide +kernel
theorem dL_presses_81 : decode cL_presses 81 = .ok (.invokestatic 138, 3) := by decide +kernel
theorem dL_presses_84 : decode cL_presses 84 = .ok (.istore 9, 2) := by decide +kernel
theorem dL_presses_86 : decode cL_presses 86 = .ok (.aload_n 0, 1) := by decide +kernel
theorem dL_presses_87 : decode cL_presses 87 = .ok (.bipush 12, 2) := by decide +kernel
theorem dL_presses_89 : decode cL_presses 89 = .ok (.iconst 1, 1) := by decide +kernel
theorem dL_presses_90 : decode cL_presses 90 = .ok (.iload_n 3, 1) := by decide +kernel
theorem dL_presses_91 : decode cL_presses 91 = .ok (.iconst 1, 1) := by decide +kernel
theorem dL_presses_92 : decode cL_presses 92 = .ok (.invokestatic 138, 3) := by decide +kernel
theorem dL_presses_95 : decode cL_presses 95 = .ok (.istore 10, 2) := by decide +kernel
theorem dL_presses_97 : decode cL_presses 97 = .ok (.aload_n 0, 1) := by decide +kernel
theorem dL_presses_98 : decode cL_presses 98 = .ok (.bipush 12, 2) := by decide +kernel
theorem dL_presses_100 : decode cL_presses 100 = .ok (.iconst 1, 1) := by decide +kernel
theorem dL_presses_101 : decode cL_presses 101 = .ok (.iload_n 3, 1) := by decide +kernel
theorem dL_presses_102 : decode cL_presses 102 = .ok (.iconst 2, 1) := by decide +kernel
theorem dL_presses_103 : decode cL_presses 103 = .ok (.invokestatic 138, 3) := by decide +kernel
theorem dL_presses_106 : decode cL_presses 106 = .ok (.istore 11, 2) := by decide +kernel
theorem dL_presses_108 : decode cL_presses 108 = .ok (.aload_n 0, 1) := by decide +kernel
theorem dL_presses_109 : decode cL_presses 109 = .ok (.bipush 12, 2) := by decide +kernel
theorem dL_presses_111 : decode cL_presses 111 = .ok (.iconst 1, 1) := by decide +kernel
theorem dL_presses_112 : decode cL_presses 112 = .ok (.iload_n 3, 1) := by decide +kernel
theorem dL_presses_113 : decode cL_presses 113 = .ok (.iconst 3, 1) := by decide +kernel
theorem dL_presses_114 : decode cL_presses 114 = .ok (.invokestatic 138, 3) := by decide +kernel
theorem dL_presses_117 : decode cL_presses 117 = .ok (.istore 12, 2) := by decide +kernel
theorem dL_presses_119 : decode cL_presses 119 = .ok (.aload_n 0, 1) := by decide +kernel
theorem dL_presses_120 : decode cL_presses 120 = .ok (.iconst 2, 1) := by decide +kernel
theorem dL_presses_121 : decode cL_presses 121 = .ok (.bipush 8, 2) := by decide +kernel
theorem dL_presses_123 : decode cL_presses 123 = .ok (.iconst 0, 1) := by decide +kernel
theorem dL_presses_124 : decode cL_presses 124 = .ok (.iconst 0, 1) := by decide +kernel
theorem dL_presses_125 : decode cL_presses 125 = .ok (.invokestatic 138, 3) := by decide +kernel
theorem dL_presses_128 : decode cL_presses 128 = .ok (.istore 13, 2) := by decide +kernel
theorem dL_presses_130 : decode cL_presses 130 = .ok (.aload_n 0, 1) := by decide +kernel
theorem dL_presses_131 : decode cL_presses 131 = .ok (.iconst 2, 1) := by decide +kernel
theorem dL_presses_132 : decode cL_presses 132 = .ok (.iconst 2, 1) := by decide +kernel
theorem dL_presses_133 : decode cL_presses 133 = .ok (.iconst 0, 1) := by decide +kernel
theorem dL_presses_134 : decode cL_presses 134 = .ok (.iconst 0, 1) := by decide +kernel
theorem dL_presses_135 : decode cL_presses 135 = .ok (.invokestatic 138, 3) := by decide +kernel
theorem dL_presses_138 : decode cL_presses 138 = .ok (.istore 14, 2) := by decide +kernel
theorem dL_presses_140 : decode cL_presses 140 = .ok (.aload_n 0, 1) := by decide +kernel
theorem dL_presses_141 : decode cL_presses 141 = .ok (.iconst 5, 1) := by decide +kernel
theorem dL_presses_142 : decode cL_presses 142 = .ok (.iconst 0, 1) := by decide +kernel
theorem dL_presses_143 : decode cL_presses 143 = .ok (.iconst 0, 1) := by decide +kernel
theorem dL_presses_144 : decode cL_presses 144 = .ok (.iconst 0, 1) := by decide +kernel
theorem dL_presses_145 : decode cL_presses 145 = .ok (.invokestatic 138, 3) := by decide +kernel
theorem dL_presses_148 : decode cL_presses 148 = .ok (.istore 15, 2) := by decide +kernel
theorem dL_presses_150 : decode cL_presses 150 = .ok (.aload_n 0, 1) := by decide +kernel
theorem dL_presses_151 : decode cL_presses 151 = .ok (.bipush 12, 2) := by decide +kernel
theorem dL_presses_153 : decode cL_presses 153 = .ok (.iconst 1, 1) := by decide +kernel
theorem dL_presses_154 : decode cL_presses 154 = .ok (.iload_n 3, 1) := by decide +kernel
theorem dL_presses_155 : decode cL_presses 155 = .ok (.iconst 0, 1) := by decide +kernel
theorem dL_presses_156 : decode cL_presses 156 = .ok (.invokestatic 138, 3) := by decide +kernel
theorem dL_presses_159 : decode cL_presses 159 = .ok (.iload 4, 2) := by decide +kernel
theorem dL_presses_161 : decode cL_presses 161 = .ok (.ifCond .ne 7, 3) := by decide +kernel
theorem dL_presses_164 : decode cL_presses 164 = .ok (.iconst 1, 1) := by decide +kernel
theorem dL_presses_165 : decode cL_presses 165 = .ok (.goto 4, 3) := by decide +kernel
theorem dL_presses_168 : decode cL_presses 168 = .ok (.iconst 0, 1) := by decide +kernel
theorem dL_presses_169 : decode cL_presses 169 = .ok (.if_icmp .ne 155, 3) := by decide +kernel
theorem dL_presses_172 : decode cL_presses 172 = .ok (.aload_n 0, 1) := by decide +kernel
theorem dL_presses_173 : decode cL_presses 173 = .ok (.bipush 12, 2) := by decide +kernel
theorem dL_presses_175 : decode cL_presses 175 = .ok (.iconst 1, 1) := by decide +kernel
theorem dL_presses_176 : decode cL_presses 176 = .ok (.iload_n 3, 1) := by decide +kernel
theorem dL_presses_177 : decode cL_presses 177 = .ok (.iconst 4, 1) := by decide +kernel
theorem dL_presses_178 : decode cL_presses 178 = .ok (.invokestatic 138, 3) := by decide +kernel
theorem dL_presses_181 : decode cL_presses 181 = .ok (.iload 4, 2) := by decide +kernel
theorem dL_presses_183 : decode cL_presses 183 = .ok (.ifCond .ne 8, 3) := by decide +kernel
theorem dL_presses_186 : decode cL_presses 186 = .ok (.iload 6, 2) := by decide +kernel
theorem dL_presses_188 : decode cL_presses 188 = .ok (.goto 5, 3) := by decide +kernel
theorem dL_presses_191 : decode cL_presses 191 = .ok (.iload 7, 2) := by decide +kernel
theorem dL_presses_193 : decode cL_presses 193 = .ok (.if_icmp .ne 131, 3) := by decide +kernel
theorem dL_presses_196 : decode cL_presses 196 = .ok (.aload_n 0, 1) := by decide +kernel
theorem dL_presses_197 : decode cL_presses 197 = .ok (.bipush 7, 2) := by decide +kernel
theorem dL_presses_199 : decode cL_presses 199 = .ok (.iload_n 3, 1) := by decide +kernel
theorem dL_presses_200 : decode cL_presses 200 = .ok (.iconst 0, 1) := by decide +kernel
theorem dL_presses_201 : decode cL_presses 201 = .ok (.iconst 0, 1) := by decide +kernel
theorem dL_presses_202 : decode cL_presses 202 = .ok (.invokestatic 138, 3) := by decide +kernel
theorem dL_presses_205 : decode cL_presses 205 = .ok (.iload 4, 2) := by decide +kernel
theorem dL_presses_207 : decode cL_presses 207 = .ok (.if_icmp .ne 117, 3) := by decide +kernel
theorem dL_presses_210 : decode cL_presses 210 = .ok (.aload_n 1, 1) := by decide +kernel
theorem dL_presses_211 : decode cL_presses 211 = .ok (.bipush 7, 2) := by decide +kernel
theorem dL_presses_213 : decode cL_presses 213 = .ok (.iload_n 3, 1) := by decide +kernel
theorem dL_presses_214 : decode cL_presses 214 = .ok (.iconst 0, 1) := by decide +kernel
theorem dL_presses_215 : decode cL_presses 215 = .ok (.iconst 0, 1) := by decide +kernel
theorem dL_presses_216 : decode cL_presses 216 = .ok (.invokestatic 138, 3) := by decide +kernel
theorem dL_presses_219 : decode cL_presses 219 = .ok (.iload 4, 2) := by decide +kernel
theorem dL_presses_221 : decode cL_presses 221 = .ok (.if_icmp .ne 103, 3) := by decide +kernel
theorem dL_presses_224 : decode cL_presses 224 = .ok (.aload_n 0, 1) := by decide +kernel
theorem dL_presses_225 : decode cL_presses 225 = .ok (.iconst 2, 1) := by decide +kernel
theorem dL_presses_226 : decode cL_presses 226 = .ok (.bipush 6, 2) := by decide +kernel
theorem dL_presses_228 : decode cL_presses 228 = .ok (.iconst 0, 1) := by decide +kernel
theorem dL_presses_229 : decode cL_presses 229 = .ok (.iconst 0, 1) := by decide +kernel
theorem dL_presses_230 : decode cL_presses 230 = .ok (.invokestatic 138, 3) := by decide +kernel
theorem dL_presses_233 : decode cL_presses 233 = .ok (.iload 9, 2) := by decide +kernel
theorem dL_presses_235 : decode cL_presses 235 = .ok (.iload 10, 2) := by decide +kernel
theorem dL_presses_237 : decode cL_presses 237 = .ok (.iadd, 1) := by decide +kernel
theorem dL_presses_238 : decode cL_presses 238 = .ok (.if_icmp .ne 86, 3) := by decide +kernel
theorem dL_presses_241 : decode cL_presses 241 = .ok (.iload 10, 2) := by decide +kernel
theorem dL_presses_243 : decode cL_presses 243 = .ok (.iload 4, 2) := by decide +kernel
theorem dL_presses_245 : decode cL_presses 245 = .ok (.ifCond .ne 19, 3) := by decide +kernel
theorem dL_presses_248 : decode cL_presses 248 = .ok (.iload 8, 2) := by decide +kernel
theorem dL_presses_250 : decode cL_presses 250 = .ok (.aload_n 0, 1) := by decide +kernel
theorem dL_presses_251 : decode cL_presses 251 = .ok (.iconst 5, 1) := by decide +kernel
theorem dL_presses_252 : decode cL_presses 252 = .ok (.iconst 2, 1) := by decide +kernel
theorem dL_presses_253 : decode cL_presses 253 = .ok (.iconst 0, 1) := by decide +kernel
theorem dL_presses_254 : decode cL_presses 254 = .ok (.iconst 0, 1) := by decide +kernel
theorem dL_presses_255 : decode cL_presses 255 = .ok (.invokestatic 138, 3) := by decide +kernel
theorem dL_presses_258 : decode cL_presses 258 = .ok (.imul, 1) := by decide +kernel
theorem dL_presses_259 : decode cL_presses 259 = .ok (.iconst 5, 1) := by decide +kernel
theorem dL_presses_260 : decode cL_presses 260 = .ok (.iadd, 1) := by decide +kernel
theorem dL_presses_261 : decode cL_presses 261 = .ok (.goto 4, 3) := by decide +kernel
theorem dL_presses_264 : decode cL_presses 264 = .ok (.iconst 0, 1) := by decide +kernel
theorem dL_presses_265 : decode cL_presses 265 = .ok (.if_icmp .ne 59, 3) := by decide +kernel
theorem dL_presses_268 : decode cL_presses 268 = .ok (.aload_n 0, 1) := by decide +kernel
theorem dL_presses_269 : decode cL_presses 269 = .ok (.iconst 2, 1) := by decide +kernel
theorem dL_presses_270 : decode cL_presses 270 = .ok (.bipush 10, 2) := by decide +kernel
theorem dL_presses_272 : decode cL_presses 272 = .ok (.iconst 0, 1) := by decide +kernel
theorem dL_presses_273 : decode cL_presses 273 = .ok (.iconst 0, 1) := by decide +kernel
theorem dL_presses_274 : decode cL_presses 274 = .ok (.invokestatic 138, 3) := by decide +kernel
theorem dL_presses_277 : decode cL_presses 277 = .ok (.iload 11, 2) := by decide +kernel
theorem dL_presses_279 : decode cL_presses 279 = .ok (.if_icmp .ne 45, 3) := by decide +kernel
theorem dL_presses_282 : decode cL_presses 282 = .ok (.aload_n 0, 1) := by decide +kernel
theorem dL_presses_283 : decode cL_presses 283 = .ok (.iconst 2, 1) := by decide +kernel
theorem dL_presses_284 : decode cL_presses 284 = .ok (.iconst 5, 1) := by decide +kernel
theorem dL_presses_285 : decode cL_presses 285 = .ok (.iconst 0, 1) := by decide +kernel
theorem dL_presses_286 : decode cL_presses 286 = .ok (.iconst 0, 1) := by decide +kernel
theorem dL_presses_287 : decode cL_presses 287 = .ok (.invokestatic 138, 3) := by decide +kernel
theorem dL_presses_290 : decode cL_presses 290 = .ok (.iload 12, 2) := by decide +kernel
theorem dL_presses_292 : decode cL_presses 292 = .ok (.if_icmp .ne 32, 3) := by decide +kernel
theorem dL_presses_295 : decode cL_presses 295 = .ok (.aload_n 0, 1) := by decide +kernel
theorem dL_presses_296 : decode cL_presses 296 = .ok (.iconst 2, 1) := by decide +kernel
theorem dL_presses_297 : decode cL_presses 297 = .ok (.bipush 8, 2) := by decide +kernel
theorem dL_presses_299 : decode cL_presses 299 = .ok (.iconst 0, 1) := by decide +kernel
theorem dL_presses_300 : decode cL_presses 300 = .ok (.iconst 0, 1) := by decide +kernel
theorem dL_presses_301 : decode cL_presses 301 = .ok (.invokestatic 138, 3) := by decide +kernel
theorem dL_presses_304 : decode cL_presses 304 = .ok (.iload 13, 2) := by decide +kernel
theorem dL_presses_306 : decode cL_presses 306 = .ok (.iload 4, 2) := by decide +kernel
theorem dL_presses_308 : decode cL_presses 308 = .ok (.ifCond .ne 7, 3) := by decide +kernel
theorem dL_presses_311 : decode cL_presses 311 = .ok (.iconst 0, 1) := by decide +kernel
theorem dL_presses_312 : decode cL_presses 312 = .ok (.goto 4, 3) := by decide +kernel
theorem dL_presses_315 : decode cL_presses 315 = .ok (.iconst 1, 1) := by decide +kernel
theorem dL_presses_316 : decode cL_presses 316 = .ok (.iadd, 1) := by decide +kernel
theorem dL_presses_317 : decode cL_presses 317 = .ok (.if_icmp .ne 7, 3) := by decide +kernel
theorem dL_presses_320 : decode cL_presses 320 = .ok (.iconst 1, 1) := by decide +kernel
theorem dL_presses_321 : decode cL_presses 321 = .ok (.goto 4, 3) := by decide +kernel
theorem dL_presses_324 : decode cL_presses 324 = .ok (.iconst 0, 1) := by decide +kernel
theorem dL_presses_325 : decode cL_presses 325 = .ok (.istore 16, 2) := by decide +kernel
theorem dL_presses_327 : decode cL_presses 327 = .ok (.aload_n 0, 1) := by decide +kernel
theorem dL_presses_328 : decode cL_presses 328 = .ok (.iconst 2, 1) := by decide +kernel
theorem dL_presses_329 : decode cL_presses 329 = .ok (.iconst 2, 1) := by decide +kernel
theorem dL_presses_330 : decode cL_presses 330 = .ok (.iconst 0, 1) := by decide +kernel
theorem dL_presses_331 : decode cL_presses 331 = .ok (.iconst 0, 1) := by decide +kernel
theorem dL_presses_332 : decode cL_presses 332 = .ok (.invokestatic 138, 3) := by decide +kernel
theorem dL_presses_335 : decode cL_presses 335 = .ok (.istore 17, 2) := by decide +kernel
theorem dL_presses_337 : decode cL_presses 337 = .ok (.iload 16, 2) := by decide +kernel
theorem dL_presses_339 : decode cL_presses 339 = .ok (.ifCond .eq 53, 3) := by decide +kernel
theorem dL_presses_342 : decode cL_presses 342 = .ok (.iload 4, 2) := by decide +kernel
theorem dL_presses_344 : decode cL_presses 344 = .ok (.ifCond .gt 30, 3) := by decide +kernel
theorem dL_presses_347 : decode cL_presses 347 = .ok (.aload_n 0, 1) := by decide +kernel
theorem dL_presses_348 : decode cL_presses 348 = .ok (.iconst 2, 1) := by decide +kernel
theorem dL_presses_349 : decode cL_presses 349 = .ok (.iconst 1, 1) := by decide +kernel
theorem dL_presses_350 : decode cL_presses 350 = .ok (.iconst 0, 1) := by decide +kernel
theorem dL_presses_351 : decode cL_presses 351 = .ok (.iconst 0, 1) := by decide +kernel
theorem dL_presses_352 : decode cL_presses 352 = .ok (.invokestatic 138, 3) := by decide +kernel
theorem dL_presses_355 : decode cL_presses 355 = .ok (.iload 6, 2) := by decide +kernel
theorem dL_presses_357 : decode cL_presses 357 = .ok (.if_icmp .ne 35, 3) := by decide +kernel
theorem dL_presses_360 : decode cL_presses 360 = .ok (.aload_n 0, 1) := by decide +kernel
theorem dL_presses_361 : decode cL_presses 361 = .ok (.iconst 4, 1) := by decide +kernel
theorem dL_presses_362 : decode cL_presses 362 = .ok (.iload 6, 2) := by decide +kernel
theorem dL_presses_364 : decode cL_presses 364 = .ok (.iconst 0, 1) := by decide +kernel
theorem dL_presses_365 : decode cL_presses 365 = .ok (.iconst 0, 1) := by decide +kernel
theorem dL_presses_366 : decode cL_presses 366 = .ok (.invokestatic 138, 3) := by decide +kernel
theorem dL_presses_369 : decode cL_presses 369 = .ok (.iload 5, 2) := by decide +kernel
theorem dL_presses_371 : decode cL_presses 371 = .ok (.if_icmp .ne 21, 3) := by decide +kernel
theorem dL_presses_374 : decode cL_presses 374 = .ok (.iload 17, 2) := by decide +kernel
theorem dL_presses_376 : decode cL_presses 376 = .ok (.iload 14, 2) := by decide +kernel
theorem dL_presses_378 : decode cL_presses 378 = .ok (.if_icmp .le 10, 3) := by decide +kernel
theorem dL_presses_381 : decode cL_presses 381 = .ok (.iload 17, 2) := by decide +kernel
theorem dL_presses_383 : decode cL_presses 383 = .ok (.iload 15, 2) := by decide +kernel
theorem dL_presses_385 : decode cL_presses 385 = .ok (.if_icmp .gt 7, 3) := by decide +kernel
theorem dL_presses_388 : decode cL_presses 388 = .ok (.iconst 1, 1) := by decide +kernel
theorem dL_presses_389 : decode cL_presses 389 = .ok (.goto 4, 3) := by decide +kernel
theorem dL_presses_392 : decode cL_presses 392 = .ok (.iconst 0, 1) := by decide +kernel
theorem dL_presses_393 : decode cL_presses 393 = .ok (.istore 16, 2) := by decide +kernel
theorem dL_presses_395 : decode cL_presses 395 = .ok (.iload 16, 2) := by decide +kernel
theorem dL_presses_397 : decode cL_presses 397 = .ok (.ifCond .eq 64, 3) := by decide +kernel
theorem dL_presses_400 : decode cL_presses 400 = .ok (.aload_n 0, 1) := by decide +kernel
theorem dL_presses_401 : decode cL_presses 401 = .ok (.bipush 9, 2) := by decide +kernel
theorem dL_presses_403 : decode cL_presses 403 = .ok (.iconst 0, 1) := by decide +kernel
theorem dL_presses_404 : decode cL_presses 404 = .ok (.iconst 0, 1) := by decide +kernel
theorem dL_presses_405 : decode cL_presses 405 = .ok (.iconst 0, 1) := by decide +kernel
theorem dL_presses_406 : decode cL_presses 406 = .ok (.invokestatic 138, 3) := by decide +kernel
theorem dL_presses_409 : decode cL_presses 409 = .ok (.invokestatic 190, 3) := by decide +kernel
theorem dL_presses_412 : decode cL_presses 412 = .ok (.ifCond .ne 49, 3) := by decide +kernel
theorem dL_presses_415 : decode cL_presses 415 = .ok (.aload_n 1, 1) := by decide +kernel
theorem dL_presses_416 : decode cL_presses 416 = .ok (.bipush 9, 2) := by decide +kernel
theorem dL_presses_418 : decode cL_presses 418 = .ok (.iconst 0, 1) := by decide +kernel
theorem dL_presses_419 : decode cL_presses 419 = .ok (.iconst 0, 1) := by decide +kernel
theorem dL_presses_420 : decode cL_presses 420 = .ok (.iconst 0, 1) := by decide +kernel
theorem dL_presses_421 : decode cL_presses 421 = .ok (.invokestatic 138, 3) := by decide +kernel
theorem dL_presses_424 : decode cL_presses 424 = .ok (.invokestatic 190, 3) := by decide +kernel
theorem dL_presses_427 : decode cL_presses 427 = .ok (.ifCond .ne 34, 3) := by decide +kernel
theorem dL_presses_430 : decode cL_presses 430 = .ok (.aload_n 0, 1) := by decide +kernel
theorem dL_presses_431 : decode cL_presses 431 = .ok (.iconst 2, 1) := by decide +kernel
theorem dL_presses_432 : decode cL_presses 432 = .ok (.iconst 1, 1) := by decide +kernel
theorem dL_presses_433 : decode cL_presses 433 = .ok (.iconst 0, 1) := by decide +kernel
theorem dL_presses_434 : decode cL_presses 434 = .ok (.iconst 0, 1) := by decide +kernel
theorem dL_presses_435 : decode cL_presses 435 = .ok (.invokestatic 138, 3) := by decide +kernel
theorem dL_presses_438 : decode cL_presses 438 = .ok (.iload 7, 2) := by decide +kernel
theorem dL_presses_440 : decode cL_presses 440 = .ok (.if_icmp .ne 21, 3) := by decide +kernel
theorem dL_presses_443 : decode cL_presses 443 = .ok (.aload_n 0, 1) := by decide +kernel
theorem dL_presses_444 : decode cL_presses 444 = .ok (.iconst 2, 1) := by decide +kernel
theorem dL_presses_445 : decode cL_presses 445 = .ok (.bipush 6, 2) := by decide +kernel
theorem dL_presses_447 : decode cL_presses 447 = .ok (.iconst 0, 1) := by decide +kernel
theorem dL_presses_448 : decode cL_presses 448 = .ok (.iconst 0, 1) := by decide +kernel
theorem dL_presses_449 : decode cL_presses 449 = .ok (.invokestatic 138, 3) := by decide +kernel
theorem dL_presses_452 : decode cL_presses 452 = .ok (.iload 9, 2) := by decide +kernel
theorem dL_presses_454 : decode cL_presses 454 = .ok (.if_icmp .ne 7, 3) := by decide +kernel
theorem dL_presses_457 : decode cL_presses 457 = .ok (.iconst 1, 1) := by decide +kernel
theorem dL_presses_458 : decode cL_presses 458 = .ok (.goto 4, 3) := by decide +kernel
theorem dL_presses_461 : decode cL_presses 461 = .ok (.iconst 0, 1) := by decide +kernel
theorem dL_presses_462 : decode cL_presses 462 = .ok (.ireturn, 1) := by decide +kernel
theorem dL_leads_0 : decode cL_leads 0 = .ok (.aload_n 0, 1) := by decide +kernel
theorem dL_leads_1 : decode cL_leads 1 = .ok (.bipush 11, 2) := by decide +kernel
theorem dL_leads_3 : decode cL_leads 3 = .ok (.iconst 0, 1) := by decide +kernel
theorem dL_leads_4 : decode cL_leads 4 = .ok (.iconst 0, 1) := by decide +kernel
theorem dL_leads_5 : decode cL_leads 5 = .ok (.iconst 0, 1) := by decide +kernel
theorem dL_leads_6 : decode cL_leads 6 = .ok (.invokestatic 138, 3) := by decide +kernel
theorem dL_leads_9 : decode cL_leads 9 = .ok (.istore_n 2, 1) := by decide +kernel
theorem dL_leads_10 : decode cL_leads 10 = .ok (.aload_n 0, 1) := by decide +kernel
theorem dL_leads_11 : decode cL_leads 11 = .ok (.invokevirtual 155, 3) := by decide +kernel
theorem dL_leads_14 : decode cL_leads 14 = .ok (.istore_n 3, 1) := by decide +kernel
theorem dL_leads_15 : decode cL_leads 15 = .ok (.aload_n 0, 1) := by decide +kernel
theorem dL_leads_16 : decode cL_leads 16 = .ok (.iconst 2, 1) := by decide +kernel
theorem dL_leads_17 : decode cL_leads 17 = .ok (.iconst 0, 1) := by decide +kernel
theorem dL_leads_18 : decode cL_leads 18 = .ok (.iconst 0, 1) := by decide +kernel
theorem dL_leads_19 : decode cL_leads 19 = .ok (.iconst 0, 1) := by decide +kernel
theorem dL_leads_20 : decode cL_leads 20 = .ok (.invokestatic 138, 3) := by decide +kernel
theorem dL_leads_23 : decode cL_leads 23 = .ok (.istore 4, 2) := by decide +kernel
theorem dL_leads_25 : decode cL_leads 25 = .ok (.iconst 1, 1) := by decide +kernel
theorem dL_leads_26 : decode cL_leads 26 = .ok (.istore 5, 2) := by decide +kernel
theorem dL_leads_28 : decode cL_leads 28 = .ok (.iconst 0, 1) := by decide +kernel
theorem dL_leads_29 : decode cL_leads 29 = .ok (.istore 6, 2) := by decide +kernel
theorem dL_leads_31 : decode cL_leads 31 = .ok (.iload 6, 2) := by decide +kernel
theorem dL_leads_33 : decode cL_leads 33 = .ok (.iload 4, 2) := by decide +kernel
theorem dL_leads_35 : decode cL_leads 35 = .ok (.if_icmp .ge 183, 3) := by decide +kernel
theorem dL_leads_38 : decode cL_leads 38 = .ok (.iload 5, 2) := by decide +kernel
theorem dL_leads_40 : decode cL_leads 40 = .ok (.ifCond .eq 178, 3) := by decide +kernel
theorem dL_leads_43 : decode cL_leads 43 = .ok (.aload_n 0, 1) := by decide +kernel
theorem dL_leads_44 : decode cL_leads 44 = .ok (.bipush 10, 2) := by decide +kernel
theorem dL_leads_46 : decode cL_leads 46 = .ok (.iload 6, 2) := by decide +kernel
theorem dL_leads_48 : decode cL_leads 48 = .ok (.iconst 0, 1) := by decide +kernel
theorem dL_leads_49 : decode cL_leads 49 = .ok (.iconst 0, 1) := by decide +kernel
theorem dL_leads_50 : decode cL_leads 50 = .ok (.invokestatic 138, 3) := by decide +kernel
theorem dL_leads_53 : decode cL_leads 53 = .ok (.ifCond .ne 159, 3) := by decide +kernel
theorem dL_leads_56 : decode cL_leads 56 = .ok (.aload_n 0, 1) := by decide +kernel
theorem dL_leads_57 : decode cL_leads 57 = .ok (.bipush 7, 2) := by decide +kernel
theorem dL_leads_59 : decode cL_leads 59 = .ok (.iload 6, 2) := by decide +kernel
theorem dL_leads_61 : decode cL_leads 61 = .ok (.iconst 0, 1) := by decide +kernel
theorem dL_leads_62 : decode cL_leads 62 = .ok (.iconst 0, 1) := by decide +kernel
theorem dL_leads_63 : decode cL_leads 63 = .ok (.invokestatic 138, 3) := by decide +kernel
theorem dL_leads_66 : decode cL_leads 66 = .ok (.ifCond .ne 20, 3) := by decide +kernel
theorem dL_leads_69 : decode cL_leads 69 = .ok (.aload_n 1, 1) := by decide +kernel
theorem dL_leads_70 : decode cL_leads 70 = .ok (.bipush 7, 2) := by decide +kernel
theorem dL_leads_72 : decode cL_leads 72 = .ok (.iload 6, 2) := by decide +kernel
theorem dL_leads_74 : decode cL_leads 74 = .ok (.iconst 0, 1) := by decide +kernel
theorem dL_leads_75 : decode cL_leads 75 = .ok (.iconst 0, 1) := by decide +kernel
theorem dL_leads_76 : decode cL_leads 76 = .ok (.invokestatic 138, 3) := by decide +kernel
theorem dL_leads_79 : decode cL_leads 79 = .ok (.ifCond .ne 7, 3) := by decide +kernel
theorem dL_leads_82 : decode cL_leads 82 = .ok (.iconst 1, 1) := by decide +kernel
theorem dL_leads_83 : decode cL_leads 83 = .ok (.goto 4, 3) := by decide +kernel
theorem dL_leads_86 : decode cL_leads 86 = .ok (.iconst 0, 1) := by decide +kernel
theorem dL_leads_87 : decode cL_leads 87 = .ok (.istore 5, 2) := by decide +kernel
theorem dL_leads_89 : decode cL_leads 89 = .ok (.aload_n 0, 1) := by decide +kernel
theorem dL_leads_90 : decode cL_leads 90 = .ok (.bipush 11, 2) := by decide +kernel
theorem dL_leads_92 : decode cL_leads 92 = .ok (.iconst 1, 1) := by decide +kernel
theorem dL_leads_93 : decode cL_leads 93 = .ok (.iconst 0, 1) := by decide +kernel
theorem dL_leads_94 : decode cL_leads 94 = .ok (.iconst 0, 1) := by decide +kernel
theorem dL_leads_95 : decode cL_leads 95 = .ok (.invokestatic 138, 3) := by decide +kernel
theorem dL_leads_98 : decode cL_leads 98 = .ok (.istore 7, 2) := by decide +kernel
theorem dL_leads_100 : decode cL_leads 100 = .ok (.iload 5, 2) := by decide +kernel
theorem dL_leads_102 : decode cL_leads 102 = .ok (.ifCond .eq 107, 3) := by decide +kernel
theorem dL_leads_105 : decode cL_leads 105 = .ok (.iload_n 2, 1) := by decide +kernel
theorem dL_leads_106 : decode cL_leads 106 = .ok (.iconst (-1), 1) := by decide +kernel
theorem dL_leads_107 : decode cL_leads 107 = .ok (.if_icmp .ne 18, 3) := by decide +kernel
theorem dL_leads_110 : decode cL_leads 110 = .ok (.iload 7, 2) := by decide +kernel
theorem dL_leads_112 : decode cL_leads 112 = .ok (.iconst (-1), 1) := by decide +kernel
theorem dL_leads_113 : decode cL_leads 113 = .ok (.if_icmp .eq 30, 3) := by decide +kernel
theorem dL_leads_116 : decode cL_leads 116 = .ok (.iload 7, 2) := by decide +kernel
theorem dL_leads_118 : decode cL_leads 118 = .ok (.iconst 5, 1) := by decide +kernel
theorem dL_leads_119 : decode cL_leads 119 = .ok (.if_icmp .ne 90, 3) := by decide +kernel
theorem dL_leads_122 : decode cL_leads 122 = .ok (.goto 21, 3) := by decide +kernel
theorem dL_leads_125 : decode cL_leads 125 = .ok (.iload_n 2, 1) := by decide +kernel
theorem dL_leads_126 : decode cL_leads 126 = .ok (.ifCond .eq 17, 3) := by decide +kernel
theorem dL_leads_129 : decode cL_leads 129 = .ok (.iload 7, 2) := by decide +kernel
theorem dL_leads_131 : decode cL_leads 131 = .ok (.iconst (-1), 1) := by decide +kernel
theorem dL_leads_132 : decode cL_leads 132 = .ok (.if_icmp .eq 11, 3) := by decide +kernel
theorem dL_leads_135 : decode cL_leads 135 = .ok (.iload 7, 2) := by decide +kernel
theorem dL_leads_137 : decode cL_leads 137 = .ok (.iload_n 2, 1) := by decide +kernel
theorem dL_leads_138 : decode cL_leads 138 = .ok (.iconst 1, 1) := by decide +kernel
theorem dL_leads_139 : decode cL_leads 139 = .ok (.isub, 1) := by decide +kernel
theorem dL_leads_140 : decode cL_leads 140 = .ok (.if_icmp .lt 69, 3) := by decide +kernel
theorem dL_leads_143 : decode cL_leads 143 = .ok (.iload 6, 2) := by decide +kernel
theorem dL_leads_145 : decode cL_leads 145 = .ok (.iload_n 3, 1) := by decide +kernel
theorem dL_leads_146 : decode cL_leads 146 = .ok (.if_icmp .ne 11, 3) := by decide +kernel
theorem dL_leads_149 : decode cL_leads 149 = .ok (.iload 7, 2) := by decide +kernel
theorem dL_leads_151 : decode cL_leads 151 = .ok (.iload_n 2, 1) := by decide +kernel
theorem dL_leads_152 : decode cL_leads 152 = .ok (.iconst 1, 1) := by decide +kernel
theorem dL_leads_153 : decode cL_leads 153 = .ok (.isub, 1) := by decide +kernel
theorem dL_leads_154 : decode cL_leads 154 = .ok (.if_icmp .ne 55, 3) := by decide +kernel
theorem dL_leads_157 : decode cL_leads 157 = .ok (.iload_n 2, 1) := by decide +kernel
theorem dL_leads_158 : decode cL_leads 158 = .ok (.ifCond .le 17, 3) := by decide +kernel
theorem dL_leads_161 : decode cL_leads 161 = .ok (.iload 6, 2) := by decide +kernel
theorem dL_leads_163 : decode cL_leads 163 = .ok (.iload_n 3, 1) := by decide +kernel
theorem dL_leads_164 : decode cL_leads 164 = .ok (.if_icmp .ge 11, 3) := by decide +kernel
theorem dL_leads_167 : decode cL_leads 167 = .ok (.iload 7, 2) := by decide +kernel
theorem dL_leads_169 : decode cL_leads 169 = .ok (.iload_n 2, 1) := by decide +kernel
theorem dL_leads_170 : decode cL_leads 170 = .ok (.iconst 1, 1) := by decide +kernel
theorem dL_leads_171 : decode cL_leads 171 = .ok (.isub, 1) := by decide +kernel
theorem dL_leads_172 : decode cL_leads 172 = .ok (.if_icmp .eq 37, 3) := by decide +kernel
theorem dL_leads_175 : decode cL_leads 175 = .ok (.aload_n 0, 1) := by decide +kernel
theorem dL_leads_176 : decode cL_leads 176 = .ok (.bipush 9, 2) := by decide +kernel
theorem dL_leads_178 : decode cL_leads 178 = .ok (.iconst 0, 1) := by decide +kernel
theorem dL_leads_179 : decode cL_leads 179 = .ok (.iconst 0, 1) := by decide +kernel
theorem dL_leads_180 : decode cL_leads 180 = .ok (.iconst 0, 1) := by decide +kernel
theorem dL_leads_181 : decode cL_leads 181 = .ok (.invokestatic 138, 3) := by decide +kernel
theorem dL_leads_184 : decode cL_leads 184 = .ok (.invokestatic 190, 3) := by decide +kernel
theorem dL_leads_187 : decode cL_leads 187 = .ok (.ifCond .ne 22, 3) := by decide +kernel
theorem dL_leads_190 : decode cL_leads 190 = .ok (.aload_n 1, 1) := by decide +kernel
theorem dL_leads_191 : decode cL_leads 191 = .ok (.bipush 9, 2) := by decide +kernel
theorem dL_leads_193 : decode cL_leads 193 = .ok (.iconst 0, 1) := by decide +kernel
theorem dL_leads_194 : decode cL_leads 194 = .ok (.iconst 0, 1) := by decide +kernel
theorem dL_leads_195 : decode cL_leads 195 = .ok (.iconst 0, 1) := by decide +kernel
theorem dL_leads_196 : decode cL_leads 196 = .ok (.invokestatic 138, 3) := by decide +kernel
theorem dL_leads_199 : decode cL_leads 199 = .ok (.invokestatic 190, 3) := by decide +kernel
theorem dL_leads_202 : decode cL_leads 202 = .ok (.ifCond .ne 7, 3) := by decide +kernel
theorem dL_leads_205 : decode cL_leads 205 = .ok (.iconst 1, 1) := by decide +kernel
theorem dL_leads_206 : decode cL_leads 206 = .ok (.goto 4, 3) := by decide +kernel
theorem dL_leads_209 : decode cL_leads 209 = .ok (.iconst 0, 1) := by decide +kernel
theorem dL_leads_210 : decode cL_leads 210 = .ok (.istore 5, 2) := by decide +kernel
theorem dL_leads_212 : decode cL_leads 212 = .ok (.iinc 6 1, 3) := by decide +kernel
theorem dL_leads_215 : decode cL_leads 215 = .ok (.goto (-184), 3) := by decide +kernel
theorem dL_leads_218 : decode cL_leads 218 = .ok (.iconst 0, 1) := by decide +kernel
theorem dL_leads_219 : decode cL_leads 219 = .ok (.istore 6, 2) := by decide +kernel
theorem dL_leads_221 : decode cL_leads 221 = .ok (.iload 6, 2) := by decide +kernel
theorem dL_leads_223 : decode cL_leads 223 = .ok (.iload_n 2, 1) := by decide +kernel
theorem dL_leads_224 : decode cL_leads 224 = .ok (.if_icmp .ge 53, 3) := by decide +kernel
theorem dL_leads_227 : decode cL_leads 227 = .ok (.iload 5, 2) := by decide +kernel
theorem dL_leads_229 : decode cL_leads 229 = .ok (.ifCond .eq 48, 3) := by decide +kernel
theorem dL_leads_232 : decode cL_leads 232 = .ok (.aload_n 0, 1) := by decide +kernel
theorem dL_leads_233 : decode cL_leads 233 = .ok (.invokevirtual 155, 3) := by decide +kernel
theorem dL_leads_236 : decode cL_leads 236 = .ok (.istore 7, 2) := by decide +kernel
theorem dL_leads_238 : decode cL_leads 238 = .ok (.aload_n 0, 1) := by decide +kernel
theorem dL_leads_239 : decode cL_leads 239 = .ok (.bipush 7, 2) := by decide +kernel
theorem dL_leads_241 : decode cL_leads 241 = .ok (.iload 7, 2) := by decide +kernel
theorem dL_leads_243 : decode cL_leads 243 = .ok (.iconst 0, 1) := by decide +kernel
theorem dL_leads_244 : decode cL_leads 244 = .ok (.iconst 0, 1) := by decide +kernel
theorem dL_leads_245 : decode cL_leads 245 = .ok (.invokestatic 138, 3) := by decide +kernel
theorem dL_leads_248 : decode cL_leads 248 = .ok (.ifCond .ne 20, 3) := by decide +kernel
theorem dL_leads_251 : decode cL_leads 251 = .ok (.aload_n 1, 1) := by decide +kernel
theorem dL_leads_252 : decode cL_leads 252 = .ok (.bipush 7, 2) := by decide +kernel
theorem dL_leads_254 : decode cL_leads 254 = .ok (.iload 7, 2) := by decide +kernel
theorem dL_leads_256 : decode cL_leads 256 = .ok (.iconst 0, 1) := by decide +kernel
theorem dL_leads_257 : decode cL_leads 257 = .ok (.iconst 0, 1) := by decide +kernel
theorem dL_leads_258 : decode cL_leads 258 = .ok (.invokestatic 138, 3) := by decide +kernel
theorem dL_leads_261 : decode cL_leads 261 = .ok (.ifCond .ne 7, 3) := by decide +kernel
theorem dL_leads_264 : decode cL_leads 264 = .ok (.iconst 1, 1) := by decide +kernel
theorem dL_leads_265 : decode cL_leads 265 = .ok (.goto 4, 3) := by decide +kernel
theorem dL_leads_268 : decode cL_leads 268 = .ok (.iconst 0, 1) := by decide +kernel
theorem dL_leads_269 : decode cL_leads 269 = .ok (.istore 5, 2) := by decide +kernel
theorem dL_leads_271 : decode cL_leads 271 = .ok (.iinc 6 1, 3) := by decide +kernel
theorem dL_leads_274 : decode cL_leads 274 = .ok (.goto (-53), 3) := by decide +kernel
theorem dL_leads_277 : decode cL_leads 277 = .ok (.iload 5, 2) := by decide +kernel
theorem dL_leads_279 : decode cL_leads 279 = .ok (.ifCond .eq 24, 3) := by decide +kernel
theorem dL_leads_282 : decode cL_leads 282 = .ok (.iload_n 2, 1) := by decide +kernel
theorem dL_leads_283 : decode cL_leads 283 = .ok (.ifCond .le 16, 3) := by decide +kernel
theorem dL_leads_286 : decode cL_leads 286 = .ok (.aload_n 0, 1) := by decide +kernel
theorem dL_leads_287 : decode cL_leads 287 = .ok (.iconst 2, 1) := by decide +kernel
theorem dL_leads_288 : decode cL_leads 288 = .ok (.iconst 5, 1) := by decide +kernel
theorem dL_leads_289 : decode cL_leads 289 = .ok (.iconst 0, 1) := by decide +kernel
theorem dL_leads_290 : decode cL_leads 290 = .ok (.iconst 0, 1) := by decide +kernel
theorem dL_leads_291 : decode cL_leads 291 = .ok (.invokestatic 138, 3) := by decide +kernel
theorem dL_leads_294 : decode cL_leads 294 = .ok (.iload 4, 2) := by decide +kernel
theorem dL_leads_296 : decode cL_leads 296 = .ok (.if_icmp .ne 7, 3) := by decide +kernel
theorem dL_leads_299 : decode cL_leads 299 = .ok (.iconst 1, 1) := by decide +kernel
theorem dL_leads_300 : decode cL_leads 300 = .ok (.goto 4, 3) := by decide +kernel
theorem dL_leads_303 : decode cL_leads 303 = .ok (.iconst 0, 1) := by decide +kernel
theorem dL_leads_304 : decode cL_leads 304 = .ok (.istore 5, 2) := by decide +kernel
theorem dL_leads_306 : decode cL_leads 306 = .ok (.iconst 0, 1) := by decide +kernel
theorem dL_leads_307 : decode cL_leads 307 = .ok (.istore 6, 2) := by decide +kernel
theorem dL_leads_309 : decode cL_leads 309 = .ok (.iload 6, 2) := by decide +kernel
theorem dL_leads_311 : decode cL_leads 311 = .ok (.iload_n 2, 1) := by decide +kernel
theorem dL_leads_312 : decode cL_leads 312 = .ok (.if_icmp .ge 51, 3) := by decide +kernel
theorem dL_leads_315 : decode cL_leads 315 = .ok (.iload 5, 2) := by decide +kernel
theorem dL_leads_317 : decode cL_leads 317 = .ok (.ifCond .eq 46, 3) := by decide +kernel
theorem dL_leads_320 : decode cL_leads 320 = .ok (.aload_n 0, 1) := by decide +kernel
theorem dL_leads_321 : decode cL_leads 321 = .ok (.bipush 9, 2) := by decide +kernel
theorem dL_leads_323 : decode cL_leads 323 = .ok (.iconst 0, 1) := by decide +kernel
theorem dL_leads_324 : decode cL_leads 324 = .ok (.iconst 0, 1) := by decide +kernel
theorem dL_leads_325 : decode cL_leads 325 = .ok (.iconst 0, 1) := by decide +kernel
theorem dL_leads_326 : decode cL_leads 326 = .ok (.invokestatic 138, 3) := by decide +kernel
theorem dL_leads_329 : decode cL_leads 329 = .ok (.invokestatic 190, 3) := by decide +kernel
theorem dL_leads_332 : decode cL_leads 332 = .ok (.ifCond .ne 22, 3) := by decide +kernel
theorem dL_leads_335 : decode cL_leads 335 = .ok (.aload_n 1, 1) := by decide +kernel
theorem dL_leads_336 : decode cL_leads 336 = .ok (.bipush 9, 2) := by decide +kernel
theorem dL_leads_338 : decode cL_leads 338 = .ok (.iconst 0, 1) := by decide +kernel
theorem dL_leads_339 : decode cL_leads 339 = .ok (.iconst 0, 1) := by decide +kernel
theorem dL_leads_340 : decode cL_leads 340 = .ok (.iconst 0, 1) := by decide +kernel
theorem dL_leads_341 : decode cL_leads 341 = .ok (.invokestatic 138, 3) := by decide +kernel
theorem dL_leads_344 : decode cL_leads 344 = .ok (.invokestatic 190, 3) := by decide +kernel
theorem dL_leads_347 : decode cL_leads 347 = .ok (.ifCond .ne 7, 3) := by decide +kernel
theorem dL_leads_350 : decode cL_leads 350 = .ok (.iconst 1, 1) := by decide +kernel
theorem dL_leads_351 : decode cL_leads 351 = .ok (.goto 4, 3) := by decide +kernel
theorem dL_leads_354 : decode cL_leads 354 = .ok (.iconst 0, 1) := by decide +kernel
theorem dL_leads_355 : decode cL_leads 355 = .ok (.istore 5, 2) := by decide +kernel
theorem dL_leads_357 : decode cL_leads 357 = .ok (.iinc 6 1, 3) := by decide +kernel
theorem dL_leads_360 : decode cL_leads 360 = .ok (.goto (-51), 3) := by decide +kernel
theorem dL_leads_363 : decode cL_leads 363 = .ok (.iload 5, 2) := by decide +kernel
theorem dL_leads_365 : decode cL_leads 365 = .ok (.ifCond .eq 20, 3) := by decide +kernel
theorem dL_leads_368 : decode cL_leads 368 = .ok (.aload_n 0, 1) := by decide +kernel
theorem dL_leads_369 : decode cL_leads 369 = .ok (.bipush 11, 2) := by decide +kernel
theorem dL_leads_371 : decode cL_leads 371 = .ok (.iconst 0, 1) := by decide +kernel
theorem dL_leads_372 : decode cL_leads 372 = .ok (.iconst 0, 1) := by decide +kernel
theorem dL_leads_373 : decode cL_leads 373 = .ok (.iconst 0, 1) := by decide +kernel
theorem dL_leads_374 : decode cL_leads 374 = .ok (.invokestatic 138, 3) := by decide +kernel
theorem dL_leads_377 : decode cL_leads 377 = .ok (.iload_n 2, 1) := by decide +kernel
theorem dL_leads_378 : decode cL_leads 378 = .ok (.if_icmp .ne 7, 3) := by decide +kernel
theorem dL_leads_381 : decode cL_leads 381 = .ok (.iconst 1, 1) := by decide +kernel
theorem dL_leads_382 : decode cL_leads 382 = .ok (.goto 4, 3) := by decide +kernel
theorem dL_leads_385 : decode cL_leads 385 = .ok (.iconst 0, 1) := by decide +kernel
theorem dL_leads_386 : decode cL_leads 386 = .ok (.ireturn, 1) := by decide +kernel
