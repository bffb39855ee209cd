theorem dL_tryScript_0 : decode cL_tryScript 0 = .ok (.aload_n 0, 1) := by decide +kernel
theorem dL_tryScript_1 : decode cL_tryScript 1 = .ok (.iload_n 1, 1) := by decide +kernel
theorem dL_tryScript_2 : decode cL_tryScript 2 = .ok (.lload_n 2, 1) := by decide +kernel
theorem dL_tryScript_3 : decode cL_tryScript 3 = .ok (.invokevirtual 7, 3) := by decide +kernel
theorem dL_tryScript_6 : decode cL_tryScript 6 = .ok (.ireturn, 1) := by decide +kernel
theorem dL_tryScript_7 : decode cL_tryScript 7 = .ok (.astore 4, 2) := by decide +kernel
theorem dL_tryScript_9 : decode cL_tryScript 9 = .ok (.ldc 15, 2) := by decide +kernel
theorem dL_tryScript_11 : decode cL_tryScript 11 = .ok (.ireturn, 1) := by decide +kernel
theorem dL_trySimulate_0 : decode cL_trySimulate 0 = .ok (.aload_n 0, 1) := by decide +kernel
theorem dL_trySimulate_1 : decode cL_trySimulate 1 = .ok (.lload_n 1, 1) := by decide +kernel
theorem dL_trySimulate_2 : decode cL_trySimulate 2 = .ok (.iload_n 3, 1) := by decide +kernel
theorem dL_trySimulate_3 : decode cL_trySimulate 3 = .ok (.invokevirtual 16, 3) := by decide +kernel
theorem dL_trySimulate_6 : decode cL_trySimulate 6 = .ok (.ireturn, 1) := by decide +kernel
theorem dL_trySimulate_7 : decode cL_trySimulate 7 = .ok (.astore 4, 2) := by decide +kernel
theorem dL_trySimulate_9 : decode cL_trySimulate 9 = .ok (.ldc 15, 2) := by decide +kernel
theorem dL_trySimulate_11 : decode cL_trySimulate 11 = .ok (.ireturn, 1) := by decide +kernel
theorem dL_tryAppend_0 : decode cL_tryAppend 0 = .ok (.aload_n 0, 1) := by decide +kernel
theorem dL_tryAppend_1 : decode cL_tryAppend 1 = .ok (.iload_n 1, 1) := by decide +kernel
theorem dL_tryAppend_2 : decode cL_tryAppend 2 = .ok (.invokevirtual 20, 3) := by decide +kernel
theorem dL_tryAppend_5 : decode cL_tryAppend 5 = .ok (.ireturn, 1) := by decide +kernel
theorem dL_tryAppend_6 : decode cL_tryAppend 6 = .ok (.astore_n 2, 1) := by decide +kernel
theorem dL_tryAppend_7 : decode cL_tryAppend 7 = .ok (.ldc 15, 2) := by decide +kernel
theorem dL_tryAppend_9 : decode cL_tryAppend 9 = .ok (.ireturn, 1) := by decide +kernel
theorem dL_tryAppend_10 : decode cL_tryAppend 10 = .ok (.astore_n 2, 1) := by decide +kernel
theorem dL_tryAppend_11 : decode cL_tryAppend 11 = .ok (.ldc 26, 2) := by decide +kernel
theorem dL_tryAppend_13 : decode cL_tryAppend 13 = .ok (.ireturn, 1) := by decide +kernel
theorem dL_tryLoad_0 : decode cL_tryLoad 0 = .ok (.aload_n 0, 1) := by decide +kernel
theorem dL_tryLoad_1 : decode cL_tryLoad 1 = .ok (.invokevirtual 27, 3) := by decide +kernel
theorem dL_tryLoad_4 : decode cL_tryLoad 4 = .ok (.ireturn, 1) := by decide +kernel
theorem dL_tryLoad_5 : decode cL_tryLoad 5 = .ok (.astore_n 1, 1) := by decide +kernel
theorem dL_tryLoad_6 : decode cL_tryLoad 6 = .ok (.ldc 26, 2) := by decide +kernel
theorem dL_tryLoad_8 : decode cL_tryLoad 8 = .ok (.ireturn, 1) := by decide +kernel
theorem dL_tryAbout_0 : decode cL_tryAbout 0 = .ok (.aload_n 0, 1) := by decide +kernel
theorem dL_tryAbout_1 : decode cL_tryAbout 1 = .ok (.iload_n 1, 1) := by decide +kernel
theorem dL_tryAbout_2 : decode cL_tryAbout 2 = .ok (.invokevirtual 31, 3) := by decide +kernel
theorem dL_tryAbout_5 : decode cL_tryAbout 5 = .ok (.ireturn, 1) := by decide +kernel
theorem dL_tryAbout_6 : decode cL_tryAbout 6 = .ok (.astore_n 2, 1) := by decide +kernel
theorem dL_tryAbout_7 : decode cL_tryAbout 7 = .ok (.ldc 15, 2) := by decide +kernel
theorem dL_tryAbout_9 : decode cL_tryAbout 9 = .ok (.ireturn, 1) := by decide +kernel
theorem dL_tryBlock_0 : decode cL_tryBlock 0 = .ok (.aload_n 0, 1) := by decide +kernel
theorem dL_tryBlock_1 : decode cL_tryBlock 1 = .ok (.iload_n 1, 1) := by decide +kernel
theorem dL_tryBlock_2 : decode cL_tryBlock 2 = .ok (.iload_n 2, 1) := by decide +kernel
theorem dL_tryBlock_3 : decode cL_tryBlock 3 = .ok (.invokevirtual 34, 3) := by decide +kernel
theorem dL_tryBlock_6 : decode cL_tryBlock 6 = .ok (.ireturn, 1) := by decide +kernel
theorem dL_tryBlock_7 : decode cL_tryBlock 7 = .ok (.astore_n 3, 1) := by decide +kernel
theorem dL_tryBlock_8 : decode cL_tryBlock 8 = .ok (.ldc 40, 2) := by decide +kernel
theorem dL_tryBlock_10 : decode cL_tryBlock 10 = .ok (.ireturn, 1) := by decide +kernel
theorem dL_tryBlock_11 : decode cL_tryBlock 11 = .ok (.astore_n 3, 1) := by decide +kernel
theorem dL_tryBlock_12 : decode cL_tryBlock 12 = .ok (.ldc 15, 2) := by decide +kernel
theorem dL_tryBlock_14 : decode cL_tryBlock 14 = .ok (.ireturn, 1) := by decide +kernel
theorem dL_tryRange_0 : decode cL_tryRange 0 = .ok (.aload_n 0, 1) := by decide +kernel
theorem dL_tryRange_1 : decode cL_tryRange 1 = .ok (.iload_n 1, 1) := by decide +kernel
theorem dL_tryRange_2 : decode cL_tryRange 2 = .ok (.iload_n 2, 1) := by decide +kernel
theorem dL_tryRange_3 : decode cL_tryRange 3 = .ok (.invokevirtual 41, 3) := by decide +kernel
theorem dL_tryRange_6 : decode cL_tryRange 6 = .ok (.ireturn, 1) := by decide +kernel
theorem dL_tryRange_7 : decode cL_tryRange 7 = .ok (.astore_n 3, 1) := by decide +kernel
theorem dL_tryRange_8 : decode cL_tryRange 8 = .ok (.ldc 40, 2) := by decide +kernel
theorem dL_tryRange_10 : decode cL_tryRange 10 = .ok (.ireturn, 1) := by decide +kernel
theorem dL_tryRange_11 : decode cL_tryRange 11 = .ok (.astore_n 3, 1) := by decide +kernel
theorem dL_tryRange_12 : decode cL_tryRange 12 = .ok (.ldc 15, 2) := by decide +kernel
theorem dL_tryRange_14 : decode cL_tryRange 14 = .ok (.ireturn, 1) := by decide +kernel
theorem dL_tryPinned_0 : decode cL_tryPinned 0 = .ok (.aload_n 0, 1) := by decide +kernel
theorem dL_tryPinned_1 : decode cL_tryPinned 1 = .ok (.iload_n 1, 1) := by decide +kernel
theorem dL_tryPinned_2 : decode cL_tryPinned 2 = .ok (.iload_n 2, 1) := by decide +kernel
theorem dL_tryPinned_3 : decode cL_tryPinned 3 = .ok (.invokevirtual 44, 3) := by decide +kernel
theorem dL_tryPinned_6 : decode cL_tryPinned 6 = .ok (.ireturn, 1) := by decide +kernel
theorem dL_tryPinned_7 : decode cL_tryPinned 7 = .ok (.astore_n 3, 1) := by decide +kernel
theorem dL_tryPinned_8 : decode cL_tryPinned 8 = .ok (.ldc 40, 2) := by decide +kernel
theorem dL_tryPinned_10 : decode cL_tryPinned 10 = .ok (.ireturn, 1) := by decide +kernel
theorem dL_tryPinned_11 : decode cL_tryPinned 11 = .ok (.astore_n 3, 1) := by decide +kernel
theorem dL_tryPinned_12 : decode cL_tryPinned 12 = .ok (.ldc 15, 2) := by decide +kernel
theorem dL_tryPinned_14 : decode cL_tryPinned 14 = .ok (.ireturn, 1) := by decide +kernel
theorem dL_trySetting_0 : decode cL_trySetting 0 = .ok (.aload_n 0, 1) := by decide +kernel
theorem dL_trySetting_1 : decode cL_trySetting 1 = .ok (.iload_n 1, 1) := by decide +kernel
theorem dL_trySetting_2 : decode cL_trySetting 2 = .ok (.invokevirtual 47, 3) := by decide +kernel
theorem dL_trySetting_5 : decode cL_trySetting 5 = .ok (.ireturn, 1) := by decide +kernel
theorem dL_trySetting_6 : decode cL_trySetting 6 = .ok (.astore_n 2, 1) := by decide +kernel
theorem dL_trySetting_7 : decode cL_trySetting 7 = .ok (.ldc 15, 2) := by decide +kernel
theorem dL_trySetting_9 : decode cL_trySetting 9 = .ok (.ireturn, 1) := by decide +kernel
theorem dL_tryWrite_0 : decode cL_tryWrite 0 = .ok (.aload_n 0, 1) := by decide +kernel
theorem dL_tryWrite_1 : decode cL_tryWrite 1 = .ok (.iload_n 1, 1) := by decide +kernel
theorem dL_tryWrite_2 : decode cL_tryWrite 2 = .ok (.iload_n 2, 1) := by decide +kernel
theorem dL_tryWrite_3 : decode cL_tryWrite 3 = .ok (.invokevirtual 50, 3) := by decide +kernel
theorem dL_tryWrite_6 : decode cL_tryWrite 6 = .ok (.ireturn, 1) := by decide +kernel
theorem dL_tryWrite_7 : decode cL_tryWrite 7 = .ok (.astore_n 3, 1) := by decide +kernel
theorem dL_tryWrite_8 : decode cL_tryWrite 8 = .ok (.ldc 40, 2) := by decide +kernel
theorem dL_tryWrite_10 : decode cL_tryWrite 10 = .ok (.ireturn, 1) := by decide +kernel
theorem dL_tryWrite_11 : decode cL_tryWrite 11 = .ok (.astore_n 3, 1) := by decide +kernel
theorem dL_tryWrite_12 : decode cL_tryWrite 12 = .ok (.ldc 15, 2) := by decide +kernel
theorem dL_tryWrite_14 : decode cL_tryWrite 14 = .ok (.ireturn, 1) := by decide +kernel
theorem dL_tryWrite_15 : decode cL_tryWrite 15 = .ok (.astore_n 3, 1) := by decide +kernel
theorem dL_tryWrite_16 : decode cL_tryWrite 16 = .ok (.ldc 26, 2) := by decide +kernel
theorem dL_tryWrite_18 : decode cL_tryWrite 18 = .ok (.ireturn, 1) := by decide +kernel
theorem dL_tryFree_0 : decode cL_tryFree 0 = .ok (.aload_n 0, 1) := by decide +kernel
theorem dL_tryFree_1 : decode cL_tryFree 1 = .ok (.iload_n 1, 1) := by decide +kernel
theorem dL_tryFree_2 : decode cL_tryFree 2 = .ok (.iload_n 2, 1) := by decide +kernel
theorem dL_tryFree_3 : decode cL_tryFree 3 = .ok (.invokevirtual 53, 3) := by decide +kernel
theorem dL_tryFree_6 : decode cL_tryFree 6 = .ok (.ireturn, 1) := by decide +kernel
theorem dL_tryFree_7 : decode cL_tryFree 7 = .ok (.astore_n 3, 1) := by decide +kernel
theorem dL_tryFree_8 : decode cL_tryFree 8 = .ok (.ldc 40, 2) := by decide +kernel
theorem dL_tryFree_10 : decode cL_tryFree 10 = .ok (.ireturn, 1) := by decide +kernel
theorem dL_tryFree_11 : decode cL_tryFree 11 = .ok (.astore_n 3, 1) := by decide +kernel
theorem dL_tryFree_12 : decode cL_tryFree 12 = .ok (.ldc 15, 2) := by decide +kernel
theorem dL_tryFree_14 : decode cL_tryFree 14 = .ok (.ireturn, 1) := by decide +kernel
theorem dL_tryFree_15 : decode cL_tryFree 15 = .ok (.astore_n 3, 1) := by decide +kernel
theorem dL_tryFree_16 : decode cL_tryFree 16 = .ok (.ldc 26, 2) := by decide +kernel
theorem dL_tryFree_18 : decode cL_tryFree 18 = .ok (.ireturn, 1) := by decide +kernel
theorem dL_tryPin_0 : decode cL_tryPin 0 = .ok (.aload_n 0, 1) := by decide +kernel
theorem dL_tryPin_1 : decode cL_tryPin 1 = .ok (.iload_n 1, 1) := by decide +kernel
theorem dL_tryPin_2 : decode cL_tryPin 2 = .ok (.iload_n 2, 1) := by decide +kernel
theorem dL_tryPin_3 : decode cL_tryPin 3 = .ok (.iload_n 3, 1) := by decide +kernel
theorem dL_tryPin_4 : decode cL_tryPin 4 = .ok (.invokevirtual 56, 3) := by decide +kernel
theorem dL_tryPin_7 : decode cL_tryPin 7 = .ok (.ireturn, 1) := by decide +kernel
theorem dL_tryPin_8 : decode cL_tryPin 8 = .ok (.astore 4, 2) := by decide +kernel
theorem dL_tryPin_10 : decode cL_tryPin 10 = .ok (.ldc 40, 2) := by decide +kernel
theorem dL_tryPin_12 : decode cL_tryPin 12 = .ok (.ireturn, 1) := by decide +kernel
theorem dL_tryPin_13 : decode cL_tryPin 13 = .ok (.astore 4, 2) := by decide +kernel
theorem dL_tryPin_15 : decode cL_tryPin 15 = .ok (.ldc 15, 2) := by decide +kernel
theorem dL_tryPin_17 : decode cL_tryPin 17 = .ok (.ireturn, 1) := by decide +kernel
theorem dL_tryPin_18 : decode cL_tryPin 18 = .ok (.astore 4, 2) := by decide +kernel
theorem dL_tryPin_20 : decode cL_tryPin 20 = .ok (.ldc 26, 2) := by decide +kernel
theorem dL_tryPin_22 : decode cL_tryPin 22 = .ok (.ireturn, 1) := by decide +kernel
theorem dL_tryUnpin_0 : decode cL_tryUnpin 0 = .ok (.aload_n 0, 1) := by decide +kernel
theorem dL_tryUnpin_1 : decode cL_tryUnpin 1 = .ok (.iload_n 1, 1) := by decide +kernel
theorem dL_tryUnpin_2 : decode cL_tryUnpin 2 = .ok (.invokevirtual 60, 3) := by decide +kernel
theorem dL_tryUnpin_5 : decode cL_tryUnpin 5 = .ok (.ireturn, 1) := by decide +kernel
theorem dL_tryUnpin_6 : decode cL_tryUnpin 6 = .ok (.astore_n 2, 1) := by decide +kernel
theorem dL_tryUnpin_7 : decode cL_tryUnpin 7 = .ok (.ldc 40, 2) := by decide +kernel
theorem dL_tryUnpin_9 : decode cL_tryUnpin 9 = .ok (.ireturn, 1) := by decide +kernel
theorem dL_tryUnpin_10 : decode cL_tryUnpin 10 = .ok (.astore_n 2, 1) := by decide +kernel
theorem dL_tryUnpin_11 : decode cL_tryUnpin 11 = .ok (.ldc 26, 2) := by decide +kernel
theorem dL_tryUnpin_13 : decode cL_tryUnpin 13 = .ok (.ireturn, 1) := by decide +kernel
theorem dL_tryRun_0 : decode cL_tryRun 0 = .ok (.aload_n 0, 1) := by decide +kernel
theorem dL_tryRun_1 : decode cL_tryRun 1 = .ok (.iload_n 1, 1) := by decide +kernel
theorem dL_tryRun_2 : decode cL_tryRun 2 = .ok (.invokevirtual 63, 3) := by decide +kernel
theorem dL_tryRun_5 : decode cL_tryRun 5 = .ok (.ireturn, 1) := by decide +kernel
theorem dL_tryRun_6 : decode cL_tryRun 6 = .ok (.astore_n 2, 1) := by decide +kernel
theorem dL_tryRun_7 : decode cL_tryRun 7 = .ok (.ldc 15, 2) := by decide +kernel
theorem dL_tryRun_9 : decode cL_tryRun 9 = .ok (.ireturn, 1) := by decide +kernel
theorem dL_tryLay_0 : decode cL_tryLay 0 = .ok (.aload_n 0, 1) := by decide +kernel
theorem dL_tryLay_1 : decode cL_tryLay 1 = .ok (.iload_n 1, 1) := by decide +kernel
theorem dL_tryLay_2 : decode cL_tryLay 2 = .ok (.iload_n 2, 1) := by decide +kernel
theorem dL_tryLay_3 : decode cL_tryLay 3 = .ok (.invokevirtual 66, 3) := by decide +kernel
theorem dL_tryLay_6 : decode cL_tryLay 6 = .ok (.ireturn, 1) := by decide +kernel
theorem dL_tryLay_7 : decode cL_tryLay 7 = .ok (.astore_n 3, 1) := by decide +kernel
theorem dL_tryLay_8 : decode cL_tryLay 8 = .ok (.ldc 15, 2) := by decide +kernel
theorem dL_tryLay_10 : decode cL_tryLay 10 = .ok (.ireturn, 1) := by decide +kernel
theorem dL_tryUndo_0 : decode cL_tryUndo 0 = .ok (.aload_n 0, 1) := by decide +kernel
theorem dL_tryUndo_1 : decode cL_tryUndo 1 = .ok (.invokevirtual 69, 3) := by decide +kernel
theorem dL_tryUndo_4 : decode cL_tryUndo 4 = .ok (.ireturn, 1) := by decide +kernel
theorem dL_tryUndo_5 : decode cL_tryUndo 5 = .ok (.astore_n 1, 1) := by decide +kernel
theorem dL_tryUndo_6 : decode cL_tryUndo 6 = .ok (.ldc 26, 2) := by decide +kernel
theorem dL_tryUndo_8 : decode cL_tryUndo 8 = .ok (.ireturn, 1) := by decide +kernel
theorem dL_tryNext_0 : decode cL_tryNext 0 = .ok (.aload_n 0, 1) := by decide +kernel
theorem dL_tryNext_1 : decode cL_tryNext 1 = .ok (.iload_n 1, 1) := by decide +kernel
theorem dL_tryNext_2 : decode cL_tryNext 2 = .ok (.invokevirtual 72, 3) := by decide +kernel
theorem dL_tryNext_5 : decode cL_tryNext 5 = .ok (.ireturn, 1) := by decide +kernel
theorem dL_tryNext_6 : decode cL_tryNext 6 = .ok (.astore_n 2, 1) := by decide +kernel
theorem dL_tryNext_7 : decode cL_tryNext 7 = .ok (.ldc 15, 2) := by decide +kernel
theorem dL_tryNext_9 : decode cL_tryNext 9 = .ok (.ireturn, 1) := by decide +kernel
theorem dL_tryGone_0 : decode cL_tryGone 0 = .ok (.aload_n 0, 1) := by decide +kernel
theorem dL_tryGone_1 : decode cL_tryGone 1 = .ok (.iload_n 1, 1) := by decide +kernel
theorem dL_tryGone_2 : decode cL_tryGone 2 = .ok (.invokevirtual 75, 3) := by decide +kernel
theorem dL_tryGone_5 : decode cL_tryGone 5 = .ok (.ireturn, 1) := by decide +kernel
theorem dL_tryGone_6 : decode cL_tryGone 6 = .ok (.astore_n 2, 1) := by decide +kernel
theorem dL_tryGone_7 : decode cL_tryGone 7 = .ok (.ldc 40, 2) := by decide +kernel
theorem dL_tryGone_9 : decode cL_tryGone 9 = .ok (.ireturn, 1) := by decide +kernel
theorem dL_tryComing_0 : decode cL_tryComing 0 = .ok (.aload_n 0, 1) := by decide +kernel
theorem dL_tryComing_1 : decode cL_tryComing 1 = .ok (.iload_n 1, 1) := by decide +kernel
theorem dL_tryComing_2 : decode cL_tryComing 2 = .ok (.iload_n 2, 1) := by decide +kernel
theorem dL_tryComing_3 : decode cL_tryComing 3 = .ok (.invokevirtual 78, 3) := by decide +kernel
theorem dL_tryComing_6 : decode cL_tryComing 6 = .ok (.ireturn, 1) := by decide +kernel
theorem dL_tryComing_7 : decode cL_tryComing 7 = .ok (.astore_n 3, 1) := by decide +kernel
theorem dL_tryComing_8 : decode cL_tryComing 8 = .ok (.ldc 15, 2) := by decide +kernel
theorem dL_tryComing_10 : decode cL_tryComing 10 = .ok (.ireturn, 1) := by decide +kernel
theorem dL_tryBest_0 : decode cL_tryBest 0 = .ok (.aload_n 0, 1) := by decide +kernel
theorem dL_tryBest_1 : decode cL_tryBest 1 = .ok (.iload_n 1, 1) := by decide +kernel
theorem dL_tryBest_2 : decode cL_tryBest 2 = .ok (.invokevirtual 81, 3) := by decide +kernel
theorem dL_tryBest_5 : decode cL_tryBest 5 = .ok (.ireturn, 1) := by decide +kernel
theorem dL_tryBest_6 : decode cL_tryBest 6 = .ok (.astore_n 2, 1) := by decide +kernel
theorem dL_tryBest_7 : decode cL_tryBest 7 = .ok (.ldc 15, 2) := by decide +kernel
theorem dL_tryBest_9 : decode cL_tryBest 9 = .ok (.ireturn, 1) := by decide +kernel
theorem dL_tryWould_0 : decode cL_tryWould 0 = .ok (.aload_n 0, 1) := by decide +kernel
theorem dL_tryWould_1 : decode cL_tryWould 1 = .ok (.iload_n 1, 1) := by decide +kernel
theorem dL_tryWould_2 : decode cL_tryWould 2 = .ok (.iload_n 2, 1) := by decide +kernel
theorem dL_tryWould_3 : decode cL_tryWould 3 = .ok (.invokevirtual 84, 3) := by decide +kernel
theorem dL_tryWould_6 : decode cL_tryWould 6 = .ok (.ireturn, 1) := by decide +kernel
theorem dL_tryWould_7 : decode cL_tryWould 7 = .ok (.astore_n 3, 1) := by decide +kernel
theorem dL_tryWould_8 : decode cL_tryWould 8 = .ok (.ldc 40, 2) := by decide +kernel
theorem dL_tryWould_10 : decode cL_tryWould 10 = .ok (.ireturn, 1) := by decide +kernel
theorem dL_tryWould_11 : decode cL_tryWould 11 = .ok (.astore_n 3, 1) := by decide +kernel
theorem dL_tryWould_12 : decode cL_tryWould 12 = .ok (.ldc 15, 2) := by decide +kernel
theorem dL_tryWould_14 : decode cL_tryWould 14 = .ok (.ireturn, 1) := by decide +kernel
theorem dL_tryWould_15 : decode cL_tryWould 15 = .ok (.astore_n 3, 1) := by decide +kernel
theorem dL_tryWould_16 : decode cL_tryWould 16 = .ok (.ldc 26, 2) := by decide +kernel
theorem dL_tryWould_18 : decode cL_tryWould 18 = .ok (.ireturn, 1) := by decide +kernel
theorem dL_tryKeep_0 : decode cL_tryKeep 0 = .ok (.aload_n 0, 1) := by decide +kernel
theorem dL_tryKeep_1 : decode cL_tryKeep 1 = .ok (.iload_n 1, 1) := by decide +kernel
theorem dL_tryKeep_2 : decode cL_tryKeep 2 = .ok (.invokevirtual 87, 3) := by decide +kernel
theorem dL_tryKeep_5 : decode cL_tryKeep 5 = .ok (.ireturn, 1) := by decide +kernel
theorem dL_tryKeep_6 : decode cL_tryKeep 6 = .ok (.astore_n 2, 1) := by decide +kernel
theorem dL_tryKeep_7 : decode cL_tryKeep 7 = .ok (.ldc 40, 2) := by decide +kernel
theorem dL_tryKeep_9 : decode cL_tryKeep 9 = .ok (.ireturn, 1) := by decide +kernel
theorem dL_tryBack_0 : decode cL_tryBack 0 = .ok (.aload_n 0, 1) := by decide +kernel
theorem dL_tryBack_1 : decode cL_tryBack 1 = .ok (.iload_n 1, 1) := by decide +kernel
theorem dL_tryBack_2 : decode cL_tryBack 2 = .ok (.invokevirtual 90, 3) := by decide +kernel
theorem dL_tryBack_5 : decode cL_tryBack 5 = .ok (.ireturn, 1) := by decide +kernel
theorem dL_tryBack_6 : decode cL_tryBack 6 = .ok (.astore_n 2, 1) := by decide +kernel
theorem dL_tryBack_7 : decode cL_tryBack 7 = .ok (.ldc 40, 2) := by decide +kernel
theorem dL_tryBack_9 : decode cL_tryBack 9 = .ok (.ireturn, 1) := by decide +kernel
theorem dL_tryBack_10 : decode cL_tryBack 10 = .ok (.astore_n 2, 1) := by decide +kernel
theorem dL_tryBack_11 : decode cL_tryBack 11 = .ok (.ldc 26, 2) := by decide +kernel
theorem dL_tryBack_13 : decode cL_tryBack 13 = .ok (.ireturn, 1) := by decide +kernel
theorem dL_call_0 : decode cL_call 0 = .ok (.iload_n 1, 1) := by decide +kernel
theorem dL_call_1 : decode cL_call 1 = .ok (.tableswitch 224 0 19 #[95, 101, 106, 112, 119, 126, 133, 139, 146, 153, 162, 168, 174, 181, 186, 192, 198, 205, 211, 218], 95) := by decide +kernel
theorem dL_call_96 : decode cL_call 96 = .ok (.aload_n 0, 1) := by decide +kernel
theorem dL_call_97 : decode cL_call 97 = .ok (.iload_n 2, 1) := by decide +kernel
theorem dL_call_98 : decode cL_call 98 = .ok (.invokestatic 93, 3) := by decide +kernel
theorem dL_call_101 : decode cL_call 101 = .ok (.ireturn, 1) := by decide +kernel
theorem dL_call_102 : decode cL_call 102 = .ok (.aload_n 0, 1) := by decide +kernel
theorem dL_call_103 : decode cL_call 103 = .ok (.invokestatic 99, 3) := by decide +kernel
theorem dL_call_106 : decode cL_call 106 = .ok (.ireturn, 1) := by decide +kernel
theorem dL_call_107 : decode cL_call 107 = .ok (.aload_n 0, 1) := by decide +kernel
theorem dL_call_108 : decode cL_call 108 = .ok (.iload_n 2, 1) := by decide +kernel
theorem dL_call_109 : decode cL_call 109 = .ok (.invokestatic 103, 3) := by decide +kernel
theorem dL_call_112 : decode cL_call 112 = .ok (.ireturn, 1) := by decide +kernel
theorem dL_call_113 : decode cL_call 113 = .ok (.aload_n 0, 1) := by decide +kernel
theorem dL_call_114 : decode cL_call 114 = .ok (.iload_n 2, 1) := by decide +kernel
theorem dL_call_115 : decode cL_call 115 = .ok (.iload_n 3, 1) := by decide +kernel
theorem dL_call_116 : decode cL_call 116 = .ok (.invokestatic 106, 3) := by decide +kernel
theorem dL_call_119 : decode cL_call 119 = .ok (.ireturn, 1) := by decide +kernel
theorem dL_call_120 : decode cL_call 120 = .ok (.aload_n 0, 1) := by decide +kernel
theorem dL_call_121 : decode cL_call 121 = .ok (.iload_n 2, 1) := by decide +kernel
theorem dL_call_122 : decode cL_call 122 = .ok (.iload_n 3, 1) := by decide +kernel
theorem dL_call_123 : decode cL_call 123 = .ok (.invokestatic 110, 3) := by decide +kernel
theorem dL_call_126 : decode cL_call 126 = .ok (.ireturn, 1) := by decide +kernel
theorem dL_call_127 : decode cL_call 127 = .ok (.aload_n 0, 1) := by decide +kernel
theorem dL_call_128 : decode cL_call 128 = .ok (.iload_n 2, 1) := by decide +kernel
theorem dL_call_129 : decode cL_call 129 = .ok (.iload_n 3, 1) := by decide +kernel
theorem dL_call_130 : decode cL_call 130 = .ok (.invokestatic 113, 3) := by decide +kernel
theorem dL_call_133 : decode cL_call 133 = .ok (.ireturn, 1) := by decide +kernel
theorem dL_call_134 : decode cL_call 134 = .ok (.aload_n 0, 1) := by decide +kernel
theorem dL_call_135 : decode cL_call 135 = .ok (.iload_n 2, 1) := by decide +kernel
theorem dL_call_136 : decode cL_call 136 = .ok (.invokestatic 116, 3) := by decide +kernel
theorem dL_call_139 : decode cL_call 139 = .ok (.ireturn, 1) := by decide +kernel
theorem dL_call_140 : decode cL_call 140 = .ok (.aload_n 0, 1) := by decide +kernel
theorem dL_call_141 : decode cL_call 141 = .ok (.iload_n 2, 1) := by decide +kernel
theorem dL_call_142 : decode cL_call 142 = .ok (.iload_n 3, 1) := by decide +kernel
theorem dL_call_143 : decode cL_call 143 = .ok (.invokestatic 119, 3) := by decide +kernel
theorem dL_call_146 : decode cL_call 146 = .ok (.ireturn, 1) := by decide +kernel
theorem dL_call_147 : decode cL_call 147 = .ok (.aload_n 0, 1) := by decide +kernel
theorem dL_call_148 : decode cL_call 148 = .ok (.iload_n 2, 1) := by decide +kernel
theorem dL_call_149 : decode cL_call 149 = .ok (.iload_n 3, 1) := by decide +kernel
theorem dL_call_150 : decode cL_call 150 = .ok (.invokestatic 122, 3) := by decide +kernel
theorem dL_call_153 : decode cL_call 153 = .ok (.ireturn, 1) := by decide +kernel
theorem dL_call_154 : decode cL_call 154 = .ok (.aload_n 0, 1) := by decide +kernel
theorem dL_call_155 : decode cL_call 155 = .ok (.iload_n 2, 1) := by decide +kernel
theorem dL_call_156 : decode cL_call 156 = .ok (.iload_n 3, 1) := by decide +kernel
theorem dL_call_157 : decode cL_call 157 = .ok (.iload 4, 2) := by decide +kernel
theorem dL_call_159 : decode cL_call 159 = .ok (.invokestatic 125, 3) := by decide +kernel
theorem dL_call_162 : decode cL_call 162 = .ok (.ireturn, 1) := by decide +kernel
theorem dL_call_163 : decode cL_call 163 = .ok (.aload_n 0, 1) := by decide +kernel
theorem dL_call_164 : decode cL_call 164 = .ok (.iload_n 2, 1) := by decide +kernel
theorem dL_call_165 : decode cL_call 165 = .ok (.invokestatic 129, 3) := by decide +kernel
theorem dL_call_168 : decode cL_call 168 = .ok (.ireturn, 1) := by decide +kernel
theorem dL_call_169 : decode cL_call 169 = .ok (.aload_n 0, 1) := by decide +kernel
theorem dL_call_170 : decode cL_call 170 = .ok (.iload_n 2, 1) := by decide +kernel
theorem dL_call_171 : decode cL_call 171 = .ok (.invokestatic 132, 3) := by decide +kernel
theorem dL_call_174 : decode cL_call 174 = .ok (.ireturn, 1) := by decide +kernel
theorem dL_call_175 : decode cL_call 175 = .ok (.aload_n 0, 1) := by decide +kernel
theorem dL_call_176 : decode cL_call 176 = .ok (.iload_n 2, 1) := by decide +kernel
theorem dL_call_177 : decode cL_call 177 = .ok (.iload_n 3, 1) := by decide +kernel
theorem dL_call_178 : decode cL_call 178 = .ok (.invokestatic 135, 3) := by decide +kernel
theorem dL_call_181 : decode cL_call 181 = .ok (.ireturn, 1) := by decide +kernel
theorem dL_call_182 : decode cL_call 182 = .ok (.aload_n 0, 1) := by decide +kernel
theorem dL_call_183 : decode cL_call 183 = .ok (.invokestatic 138, 3) := by decide +kernel
theorem dL_call_186 : decode cL_call 186 = .ok (.ireturn, 1) := by decide +kernel
theorem dL_call_187 : decode cL_call 187 = .ok (.aload_n 0, 1) := by decide +kernel
theorem dL_call_188 : decode cL_call 188 = .ok (.iload_n 2, 1) := by decide +kernel
theorem dL_call_189 : decode cL_call 189 = .ok (.invokestatic 141, 3) := by decide +kernel
theorem dL_call_192 : decode cL_call 192 = .ok (.ireturn, 1) := by decide +kernel
theorem dL_call_193 : decode cL_call 193 = .ok (.aload_n 0, 1) := by decide +kernel
theorem dL_call_194 : decode cL_call 194 = .ok (.iload_n 2, 1) := by decide +kernel
theorem dL_call_195 : decode cL_call 195 = .ok (.invokestatic 144, 3) := by decide +kernel
theorem dL_call_198 : decode cL_call 198 = .ok (.ireturn, 1) := by decide +kernel
theorem dL_call_199 : decode cL_call 199 = .ok (.aload_n 0, 1) := by decide +kernel
theorem dL_call_200 : decode cL_call 200 = .ok (.iload_n 2, 1) := by decide +kernel
theorem dL_call_201 : decode cL_call 201 = .ok (.iload_n 3, 1) := by decide +kernel
theorem dL_call_202 : decode cL_call 202 = .ok (.invokestatic 147, 3) := by decide +kernel
theorem dL_call_205 : decode cL_call 205 = .ok (.ireturn, 1) := by decide +kernel
theorem dL_call_206 : decode cL_call 206 = .ok (.aload_n 0, 1) := by decide +kernel
theorem dL_call_207 : decode cL_call 207 = .ok (.iload_n 2, 1) := by decide +kernel
theorem dL_call_208 : decode cL_call 208 = .ok (.invokestatic 150, 3) := by decide +kernel
theorem dL_call_211 : decode cL_call 211 = .ok (.ireturn, 1) := by decide +kernel
theorem dL_call_212 : decode cL_call 212 = .ok (.aload_n 0, 1) := by decide +kernel
theorem dL_call_213 : decode cL_call 213 = .ok (.iload_n 2, 1) := by decide +kernel
theorem dL_call_214 : decode cL_call 214 = .ok (.iload_n 3, 1) := by decide +kernel
theorem dL_call_215 : decode cL_call 215 = .ok (.invokestatic 153, 3) := by decide +kernel
theorem dL_call_218 : decode cL_call 218 = .ok (.ireturn, 1) := by decide +kernel
theorem dL_call_219 : decode cL_call 219 = .ok (.aload_n 0, 1) := by decide +kernel
theorem dL_call_220 : decode cL_call 220 = .ok (.iload_n 2, 1) := by decide +kernel
theorem dL_call_221 : decode cL_call 221 = .ok (.invokestatic 156, 3) := by decide +kernel
theorem dL_call_224 : decode cL_call 224 = .ok (.ireturn, 1) := by decide +kernel
theorem dL_call_225 : decode cL_call 225 = .ok (.aload_n 0, 1) := by decide +kernel
theorem dL_call_226 : decode cL_call 226 = .ok (.iload_n 2, 1) := by decide +kernel
theorem dL_call_227 : decode cL_call 227 = .ok (.invokestatic 159, 3) := by decide +kernel
theorem dL_call_230 : decode cL_call 230 = .ok (.ireturn, 1) := by decide +kernel
theorem dL_cell_0 : decode cL_cell 0 = .ok (.iload_n 1, 1) := by decide +kernel
theorem dL_cell_1 : decode cL_cell 1 = .ok (.aload_n 0, 1) := by decide +kernel
theorem dL_cell_2 : decode cL_cell 2 = .ok (.arraylength, 1) := by decide +kernel
theorem dL_cell_3 : decode cL_cell 3 = .ok (.if_icmp .ge 9, 3) := by decide +kernel
theorem dL_cell_6 : decode cL_cell 6 = .ok (.aload_n 0, 1) := by decide +kernel
theorem dL_cell_7 : decode cL_cell 7 = .ok (.iload_n 1, 1) := by decide +kernel
theorem dL_cell_8 : decode cL_cell 8 = .ok (.iaload, 1) := by decide +kernel
theorem dL_cell_9 : decode cL_cell 9 = .ok (.goto 13, 3) := by decide +kernel
theorem dL_cell_12 : decode cL_cell 12 = .ok (.ldc 162, 2) := by decide +kernel
theorem dL_cell_14 : decode cL_cell 14 = .ok (.iload_n 1, 1) := by decide +kernel
theorem dL_cell_15 : decode cL_cell 15 = .ok (.iconst 3, 1) := by decide +kernel
theorem dL_cell_16 : decode cL_cell 16 = .ok (.iadd, 1) := by decide +kernel
theorem dL_cell_17 : decode cL_cell 17 = .ok (.imul, 1) := by decide +kernel
theorem dL_cell_18 : decode cL_cell 18 = .ok (.sipush 10859, 3) := by decide +kernel
theorem dL_cell_21 : decode cL_cell 21 = .ok (.iadd, 1) := by decide +kernel
theorem dL_cell_22 : decode cL_cell 22 = .ok (.ldc 163, 2) := by decide +kernel
theorem dL_cell_24 : decode cL_cell 24 = .ok (.iand, 1) := by decide +kernel
theorem dL_cell_25 : decode cL_cell 25 = .ok (.ireturn, 1) := by decide +kernel
theorem dL_thrown_0 : decode cL_thrown 0 = .ok (.iload_n 0, 1) := by decide +kernel
theorem dL_thrown_1 : decode cL_thrown 1 = .ok (.ldc 40, 2) := by decide +kernel
theorem dL_thrown_3 : decode cL_thrown 3 = .ok (.if_icmp .eq 15, 3) := by decide +kernel
theorem dL_thrown_6 : decode cL_thrown 6 = .ok (.iload_n 0, 1) := by decide +kernel
theorem dL_thrown_7 : decode cL_thrown 7 = .ok (.ldc 15, 2) := by decide +kernel
theorem dL_thrown_9 : decode cL_thrown 9 = .ok (.if_icmp .eq 9, 3) := by decide +kernel
theorem dL_thrown_12 : decode cL_thrown 12 = .ok (.iload_n 0, 1) := by decide +kernel
theorem dL_thrown_13 : decode cL_thrown 13 = .ok (.ldc 26, 2) := by decide +kernel
theorem dL_thrown_15 : decode cL_thrown 15 = .ok (.if_icmp .ne 7, 3) := by decide +kernel
theorem dL_thrown_18 : decode cL_thrown 18 = .ok (.iconst 1, 1) := by decide +kernel
theorem dL_thrown_19 : decode cL_thrown 19 = .ok (.goto 4, 3) := by decide +kernel
theorem dL_thrown_22 : decode cL_thrown 22 = .ok (.iconst 0, 1) := by decide +kernel
theorem dL_thrown_23 : decode cL_thrown 23 = .ok (.ireturn, 1) := by decide +kernel
