theorem dAsker_hasCopy_0 : decode cAsker_hasCopy 0 = .ok (.iload_n 0, 1) := by decide +kernel
theorem dAsker_hasCopy_1 : decode cAsker_hasCopy 1 = .ok (.iconst 4, 1) := by decide +kernel
theorem dAsker_hasCopy_2 : decode cAsker_hasCopy 2 = .ok (.if_icmp .eq 14, 3) := by decide +kernel
theorem dAsker_hasCopy_5 : decode cAsker_hasCopy 5 = .ok (.iload_n 0, 1) := by decide +kernel
theorem dAsker_hasCopy_6 : decode cAsker_hasCopy 6 = .ok (.iconst 5, 1) := by decide +kernel
theorem dAsker_hasCopy_7 : decode cAsker_hasCopy 7 = .ok (.if_icmp .eq 9, 3) := by decide +kernel
theorem dAsker_hasCopy_10 : decode cAsker_hasCopy 10 = .ok (.iload_n 0, 1) := by decide +kernel
theorem dAsker_hasCopy_11 : decode cAsker_hasCopy 11 = .ok (.bipush 6, 2) := by decide +kernel
theorem dAsker_hasCopy_13 : decode cAsker_hasCopy 13 = .ok (.if_icmp .ne 7, 3) := by decide +kernel
theorem dAsker_hasCopy_16 : decode cAsker_hasCopy 16 = .ok (.iconst 1, 1) := by decide +kernel
theorem dAsker_hasCopy_17 : decode cAsker_hasCopy 17 = .ok (.goto 4, 3) := by decide +kernel
theorem dAsker_hasCopy_20 : decode cAsker_hasCopy 20 = .ok (.iconst 0, 1) := by decide +kernel
theorem dAsker_hasCopy_21 : decode cAsker_hasCopy 21 = .ok (.ireturn, 1) := by decide +kernel
theorem dCopy_init_0 : decode cCopy_init 0 = .ok (.aload_n 0, 1) := by decide +kernel
theorem dCopy_init_1 : decode cCopy_init 1 = .ok (.invokespecial 1, 3) := by decide +kernel
theorem dCopy_init_4 : decode cCopy_init 4 = .ok (.aload_n 0, 1) := by decide +kernel
theorem dCopy_init_5 : decode cCopy_init 5 = .ok (.iconst (-1), 1) := by decide +kernel
theorem dCopy_init_6 : decode cCopy_init 6 = .ok (.putfield 9, 3) := by decide +kernel
theorem dCopy_init_9 : decode cCopy_init 9 = .ok (.aload_n 0, 1) := by decide +kernel
theorem dCopy_init_10 : decode cCopy_init 10 = .ok (.iload_n 1, 1) := by decide +kernel
theorem dCopy_init_11 : decode cCopy_init 11 = .ok (.putfield 15, 3) := by decide +kernel
theorem dCopy_init_14 : decode cCopy_init 14 = .ok (.aload_n 0, 1) := by decide +kernel
theorem dCopy_init_15 : decode cCopy_init 15 = .ok (.iload_n 2, 1) := by decide +kernel
theorem dCopy_init_16 : decode cCopy_init 16 = .ok (.putfield 18, 3) := by decide +kernel
theorem dCopy_init_19 : decode cCopy_init 19 = .ok (.aload_n 0, 1) := by decide +kernel
theorem dCopy_init_20 : decode cCopy_init 20 = .ok (.iload_n 1, 1) := by decide +kernel
theorem dCopy_init_21 : decode cCopy_init 21 = .ok (.putfield 21, 3) := by decide +kernel
theorem dCopy_init_24 : decode cCopy_init 24 = .ok (.return_, 1) := by decide +kernel
theorem dCopy_canGo_0 : decode cCopy_canGo 0 = .ok (.aload_n 0, 1) := by decide +kernel
theorem dCopy_canGo_1 : decode cCopy_canGo 1 = .ok (.getfield 18, 3) := by decide +kernel
theorem dCopy_canGo_4 : decode cCopy_canGo 4 = .ok (.iload_n 2, 1) := by decide +kernel
theorem dCopy_canGo_5 : decode cCopy_canGo 5 = .ok (.if_icmp .ne 31, 3) := by decide +kernel
theorem dCopy_canGo_8 : decode cCopy_canGo 8 = .ok (.aload_n 0, 1) := by decide +kernel
theorem dCopy_canGo_9 : decode cCopy_canGo 9 = .ok (.getfield 15, 3) := by decide +kernel
theorem dCopy_canGo_12 : decode cCopy_canGo 12 = .ok (.iload_n 1, 1) := by decide +kernel
theorem dCopy_canGo_13 : decode cCopy_canGo 13 = .ok (.if_icmp .ne 23, 3) := by decide +kernel
theorem dCopy_canGo_16 : decode cCopy_canGo 16 = .ok (.aload_n 0, 1) := by decide +kernel
theorem dCopy_canGo_17 : decode cCopy_canGo 17 = .ok (.getfield 21, 3) := by decide +kernel
theorem dCopy_canGo_20 : decode cCopy_canGo 20 = .ok (.iload_n 1, 1) := by decide +kernel
theorem dCopy_canGo_21 : decode cCopy_canGo 21 = .ok (.if_icmp .ne 15, 3) := by decide +kernel
theorem dCopy_canGo_24 : decode cCopy_canGo 24 = .ok (.aload_n 0, 1) := by decide +kernel
theorem dCopy_canGo_25 : decode cCopy_canGo 25 = .ok (.getfield 9, 3) := by decide +kernel
theorem dCopy_canGo_28 : decode cCopy_canGo 28 = .ok (.iconst (-1), 1) := by decide +kernel
theorem dCopy_canGo_29 : decode cCopy_canGo 29 = .ok (.if_icmp .ne 7, 3) := by decide +kernel
theorem dCopy_canGo_32 : decode cCopy_canGo 32 = .ok (.iconst 1, 1) := by decide +kernel
theorem dCopy_canGo_33 : decode cCopy_canGo 33 = .ok (.goto 4, 3) := by decide +kernel
theorem dCopy_canGo_36 : decode cCopy_canGo 36 = .ok (.iconst 0, 1) := by decide +kernel
theorem dCopy_canGo_37 : decode cCopy_canGo 37 = .ok (.ireturn, 1) := by decide +kernel
theorem dDeal_init_0 : decode cDeal_init 0 = .ok (.aload_n 0, 1) := by decide +kernel
theorem dDeal_init_1 : decode cDeal_init 1 = .ok (.invokespecial 1, 3) := by decide +kernel
theorem dDeal_init_4 : decode cDeal_init 4 = .ok (.aload_n 0, 1) := by decide +kernel
theorem dDeal_init_5 : decode cDeal_init 5 = .ok (.new 7, 3) := by decide +kernel
theorem dDeal_init_8 : decode cDeal_init 8 = .ok (.dup, 1) := by decide +kernel
theorem dDeal_init_9 : decode cDeal_init 9 = .ok (.invokespecial 9, 3) := by decide +kernel
theorem dDeal_init_12 : decode cDeal_init 12 = .ok (.putfield 10, 3) := by decide +kernel
theorem dDeal_init_15 : decode cDeal_init 15 = .ok (.aload_n 0, 1) := by decide +kernel
theorem dDeal_init_16 : decode cDeal_init 16 = .ok (.iload_n 3, 1) := by decide +kernel
theorem dDeal_init_17 : decode cDeal_init 17 = .ok (.putfield 16, 3) := by decide +kernel
theorem dDeal_init_20 : decode cDeal_init 20 = .ok (.aload_n 0, 1) := by decide +kernel
theorem dDeal_init_21 : decode cDeal_init 21 = .ok (.new 20, 3) := by decide +kernel
theorem dDeal_init_24 : decode cDeal_init 24 = .ok (.dup, 1) := by decide +kernel
theorem dDeal_init_25 : decode cDeal_init 25 = .ok (.iload_n 1, 1) := by decide +kernel
theorem dDeal_init_26 : decode cDeal_init 26 = .ok (.iload_n 2, 1) := by decide +kernel
theorem dDeal_init_27 : decode cDeal_init 27 = .ok (.iload_n 3, 1) := by decide +kernel
theorem dDeal_init_28 : decode cDeal_init 28 = .ok (.invokespecial 22, 3) := by decide +kernel
theorem dDeal_init_31 : decode cDeal_init 31 = .ok (.putfield 25, 3) := by decide +kernel
theorem dDeal_init_34 : decode cDeal_init 34 = .ok (.aload_n 0, 1) := by decide +kernel
theorem dDeal_init_35 : decode cDeal_init 35 = .ok (.new 20, 3) := by decide +kernel
theorem dDeal_init_38 : decode cDeal_init 38 = .ok (.dup, 1) := by decide +kernel
theorem dDeal_init_39 : decode cDeal_init 39 = .ok (.iload_n 1, 1) := by decide +kernel
theorem dDeal_init_40 : decode cDeal_init 40 = .ok (.iload_n 3, 1) := by decide +kernel
theorem dDeal_init_41 : decode cDeal_init 41 = .ok (.iload_n 2, 1) := by decide +kernel
theorem dDeal_init_42 : decode cDeal_init 42 = .ok (.invokespecial 22, 3) := by decide +kernel
theorem dDeal_init_45 : decode cDeal_init 45 = .ok (.putfield 29, 3) := by decide +kernel
theorem dDeal_init_48 : decode cDeal_init 48 = .ok (.return_, 1) := by decide +kernel
theorem dDeal_turn_0 : decode cDeal_turn 0 = .ok (.iload_n 1, 1) := by decide +kernel
theorem dDeal_turn_1 : decode cDeal_turn 1 = .ok (.ifCond .eq 11, 3) := by decide +kernel
theorem dDeal_turn_4 : decode cDeal_turn 4 = .ok (.aload_n 0, 1) := by decide +kernel
theorem dDeal_turn_5 : decode cDeal_turn 5 = .ok (.getfield 10, 3) := by decide +kernel
theorem dDeal_turn_8 : decode cDeal_turn 8 = .ok (.iload_n 2, 1) := by decide +kernel
theorem dDeal_turn_9 : decode cDeal_turn 9 = .ok (.putfield 32, 3) := by decide +kernel
theorem dDeal_turn_12 : decode cDeal_turn 12 = .ok (.return_, 1) := by decide +kernel
theorem dDeal_moveCopy_0 : decode cDeal_moveCopy 0 = .ok (.aload_n 0, 1) := by decide +kernel
theorem dDeal_moveCopy_1 : decode cDeal_moveCopy 1 = .ok (.getfield 35, 3) := by decide +kernel
theorem dDeal_moveCopy_4 : decode cDeal_moveCopy 4 = .ok (.ifnull 11, 3) := by decide +kernel
theorem dDeal_moveCopy_7 : decode cDeal_moveCopy 7 = .ok (.aload_n 0, 1) := by decide +kernel
theorem dDeal_moveCopy_8 : decode cDeal_moveCopy 8 = .ok (.getfield 35, 3) := by decide +kernel
theorem dDeal_moveCopy_11 : decode cDeal_moveCopy 11 = .ok (.iload_n 1, 1) := by decide +kernel
theorem dDeal_moveCopy_12 : decode cDeal_moveCopy 12 = .ok (.putfield 39, 3) := by decide +kernel
theorem dDeal_moveCopy_15 : decode cDeal_moveCopy 15 = .ok (.return_, 1) := by decide +kernel
theorem dDeal_freeCopy_0 : decode cDeal_freeCopy 0 = .ok (.aload_n 0, 1) := by decide +kernel
theorem dDeal_freeCopy_1 : decode cDeal_freeCopy 1 = .ok (.getfield 35, 3) := by decide +kernel
theorem dDeal_freeCopy_4 : decode cDeal_freeCopy 4 = .ok (.ifnull 11, 3) := by decide +kernel
theorem dDeal_freeCopy_7 : decode cDeal_freeCopy 7 = .ok (.aload_n 0, 1) := by decide +kernel
theorem dDeal_freeCopy_8 : decode cDeal_freeCopy 8 = .ok (.getfield 35, 3) := by decide +kernel
theorem dDeal_freeCopy_11 : decode cDeal_freeCopy 11 = .ok (.iconst (-1), 1) := by decide +kernel
theorem dDeal_freeCopy_12 : decode cDeal_freeCopy 12 = .ok (.putfield 46, 3) := by decide +kernel
theorem dDeal_freeCopy_15 : decode cDeal_freeCopy 15 = .ok (.return_, 1) := by decide +kernel
theorem dDeal_bringCopyHome_0 : decode cDeal_bringCopyHome 0 = .ok (.aload_n 0, 1) := by decide +kernel
theorem dDeal_bringCopyHome_1 : decode cDeal_bringCopyHome 1 = .ok (.getfield 35, 3) := by decide +kernel
theorem dDeal_bringCopyHome_4 : decode cDeal_bringCopyHome 4 = .ok (.ifnull 25, 3) := by decide +kernel
theorem dDeal_bringCopyHome_7 : decode cDeal_bringCopyHome 7 = .ok (.aload_n 0, 1) := by decide +kernel
theorem dDeal_bringCopyHome_8 : decode cDeal_bringCopyHome 8 = .ok (.getfield 35, 3) := by decide +kernel
theorem dDeal_bringCopyHome_11 : decode cDeal_bringCopyHome 11 = .ok (.aload_n 0, 1) := by decide +kernel
theorem dDeal_bringCopyHome_12 : decode cDeal_bringCopyHome 12 = .ok (.getfield 35, 3) := by decide +kernel
theorem dDeal_bringCopyHome_15 : decode cDeal_bringCopyHome 15 = .ok (.getfield 49, 3) := by decide +kernel
theorem dDeal_bringCopyHome_18 : decode cDeal_bringCopyHome 18 = .ok (.putfield 39, 3) := by decide +kernel
theorem dDeal_bringCopyHome_21 : decode cDeal_bringCopyHome 21 = .ok (.aload_n 0, 1) := by decide +kernel
theorem dDeal_bringCopyHome_22 : decode cDeal_bringCopyHome 22 = .ok (.getfield 35, 3) := by decide +kernel
theorem dDeal_bringCopyHome_25 : decode cDeal_bringCopyHome 25 = .ok (.iconst (-1), 1) := by decide +kernel
theorem dDeal_bringCopyHome_26 : decode cDeal_bringCopyHome 26 = .ok (.putfield 46, 3) := by decide +kernel
theorem dDeal_bringCopyHome_29 : decode cDeal_bringCopyHome 29 = .ok (.return_, 1) := by decide +kernel
theorem dLender_isOut_0 : decode cLender_isOut 0 = .ok (.iload_n 0, 1) := by decide +kernel
theorem dLender_isOut_1 : decode cLender_isOut 1 = .ok (.iconst 5, 1) := by decide +kernel
theorem dLender_isOut_2 : decode cLender_isOut 2 = .ok (.if_icmp .eq 15, 3) := by decide +kernel
theorem dLender_isOut_5 : decode cLender_isOut 5 = .ok (.iload_n 0, 1) := by decide +kernel
theorem dLender_isOut_6 : decode cLender_isOut 6 = .ok (.bipush 6, 2) := by decide +kernel
theorem dLender_isOut_8 : decode cLender_isOut 8 = .ok (.if_icmp .eq 9, 3) := by decide +kernel
theorem dLender_isOut_11 : decode cLender_isOut 11 = .ok (.iload_n 0, 1) := by decide +kernel
theorem dLender_isOut_12 : decode cLender_isOut 12 = .ok (.bipush 7, 2) := by decide +kernel
theorem dLender_isOut_14 : decode cLender_isOut 14 = .ok (.if_icmp .ne 7, 3) := by decide +kernel
theorem dLender_isOut_17 : decode cLender_isOut 17 = .ok (.iconst 1, 1) := by decide +kernel
theorem dLender_isOut_18 : decode cLender_isOut 18 = .ok (.goto 4, 3) := by decide +kernel
theorem dLender_isOut_21 : decode cLender_isOut 21 = .ok (.iconst 0, 1) := by decide +kernel
theorem dLender_isOut_22 : decode cLender_isOut 22 = .ok (.ireturn, 1) := by decide +kernel
theorem dLetter_init_0 : decode cLetter_init 0 = .ok (.aload_n 0, 1) := by decide +kernel
theorem dLetter_init_1 : decode cLetter_init 1 = .ok (.invokespecial 1, 3) := by decide +kernel
theorem dLetter_init_4 : decode cLetter_init 4 = .ok (.aload_n 0, 1) := by decide +kernel
theorem dLetter_init_5 : decode cLetter_init 5 = .ok (.iload_n 1, 1) := by decide +kernel
theorem dLetter_init_6 : decode cLetter_init 6 = .ok (.putfield 7, 3) := by decide +kernel
theorem dLetter_init_9 : decode cLetter_init 9 = .ok (.aload_n 0, 1) := by decide +kernel
theorem dLetter_init_10 : decode cLetter_init 10 = .ok (.iload_n 2, 1) := by decide +kernel
theorem dLetter_init_11 : decode cLetter_init 11 = .ok (.putfield 13, 3) := by decide +kernel
theorem dLetter_init_14 : decode cLetter_init 14 = .ok (.aload_n 0, 1) := by decide +kernel
theorem dLetter_init_15 : decode cLetter_init 15 = .ok (.iload_n 3, 1) := by decide +kernel
theorem dLetter_init_16 : decode cLetter_init 16 = .ok (.putfield 16, 3) := by decide +kernel
theorem dLetter_init_19 : decode cLetter_init 19 = .ok (.return_, 1) := by decide +kernel
theorem dLoan_init_0 : decode cLoan_init 0 = .ok (.aload_n 0, 1) := by decide +kernel
theorem dLoan_init_1 : decode cLoan_init 1 = .ok (.invokespecial 3, 3) := by decide +kernel
theorem dLoan_init_4 : decode cLoan_init 4 = .ok (.aload_n 0, 1) := by decide +kernel
theorem dLoan_init_5 : decode cLoan_init 5 = .ok (.bipush 6, 2) := by decide +kernel
theorem dLoan_init_7 : decode cLoan_init 7 = .ok (.anewarray 9, 3) := by decide +kernel
theorem dLoan_init_10 : decode cLoan_init 10 = .ok (.putfield 11, 3) := by decide +kernel
theorem dLoan_init_13 : decode cLoan_init 13 = .ok (.aload_n 0, 1) := by decide +kernel
theorem dLoan_init_14 : decode cLoan_init 14 = .ok (.new 17, 3) := by decide +kernel
theorem dLoan_init_17 : decode cLoan_init 17 = .ok (.dup, 1) := by decide +kernel
theorem dLoan_init_18 : decode cLoan_init 18 = .ok (.invokespecial 19, 3) := by decide +kernel
theorem dLoan_init_21 : decode cLoan_init 21 = .ok (.putfield 20, 3) := by decide +kernel
theorem dLoan_init_24 : decode cLoan_init 24 = .ok (.aload_n 0, 1) := by decide +kernel
theorem dLoan_init_25 : decode cLoan_init 25 = .ok (.iload_n 1, 1) := by decide +kernel
theorem dLoan_init_26 : decode cLoan_init 26 = .ok (.putfield 24, 3) := by decide +kernel
theorem dLoan_init_29 : decode cLoan_init 29 = .ok (.aload_n 0, 1) := by decide +kernel
theorem dLoan_init_30 : decode cLoan_init 30 = .ok (.iload_n 2, 1) := by decide +kernel
theorem dLoan_init_31 : decode cLoan_init 31 = .ok (.putfield 28, 3) := by decide +kernel
theorem dLoan_init_34 : decode cLoan_init 34 = .ok (.aload_n 0, 1) := by decide +kernel
theorem dLoan_init_35 : decode cLoan_init 35 = .ok (.iload_n 3, 1) := by decide +kernel
theorem dLoan_init_36 : decode cLoan_init 36 = .ok (.putfield 31, 3) := by decide +kernel
theorem dLoan_init_39 : decode cLoan_init 39 = .ok (.aload_n 0, 1) := by decide +kernel
theorem dLoan_init_40 : decode cLoan_init 40 = .ok (.iload 4, 2) := by decide +kernel
theorem dLoan_init_42 : decode cLoan_init 42 = .ok (.putfield 34, 3) := by decide +kernel
theorem dLoan_init_45 : decode cLoan_init 45 = .ok (.aload_n 0, 1) := by decide +kernel
theorem dLoan_init_46 : decode cLoan_init 46 = .ok (.iload 5, 2) := by decide +kernel
theorem dLoan_init_48 : decode cLoan_init 48 = .ok (.putfield 37, 3) := by decide +kernel
theorem dLoan_init_51 : decode cLoan_init 51 = .ok (.iload 4, 2) := by decide +kernel
theorem dLoan_init_53 : decode cLoan_init 53 = .ok (.iload_n 2, 1) := by decide +kernel
theorem dLoan_init_54 : decode cLoan_init 54 = .ok (.if_icmp .ne 13, 3) := by decide +kernel
theorem dLoan_init_57 : decode cLoan_init 57 = .ok (.iload 4, 2) := by decide +kernel
theorem dLoan_init_59 : decode cLoan_init 59 = .ok (.iconst 1, 1) := by decide +kernel
theorem dLoan_init_60 : decode cLoan_init 60 = .ok (.iadd, 1) := by decide +kernel
theorem dLoan_init_61 : decode cLoan_init 61 = .ok (.bipush 6, 2) := by decide +kernel
theorem dLoan_init_63 : decode cLoan_init 63 = .ok (.irem, 1) := by decide +kernel
theorem dLoan_init_64 : decode cLoan_init 64 = .ok (.goto 5, 3) := by decide +kernel
theorem dLoan_init_67 : decode cLoan_init 67 = .ok (.iload 4, 2) := by decide +kernel
theorem dLoan_init_69 : decode cLoan_init 69 = .ok (.istore 6, 2) := by decide +kernel
theorem dLoan_init_71 : decode cLoan_init 71 = .ok (.aload_n 0, 1) := by decide +kernel
theorem dLoan_init_72 : decode cLoan_init 72 = .ok (.new 9, 3) := by decide +kernel
theorem dLoan_init_75 : decode cLoan_init 75 = .ok (.dup, 1) := by decide +kernel
theorem dLoan_init_76 : decode cLoan_init 76 = .ok (.iload_n 1, 1) := by decide +kernel
theorem dLoan_init_77 : decode cLoan_init 77 = .ok (.iload_n 2, 1) := by decide +kernel
theorem dLoan_init_78 : decode cLoan_init 78 = .ok (.iload 6, 2) := by decide +kernel
theorem dLoan_init_80 : decode cLoan_init 80 = .ok (.invokespecial 40, 3) := by decide +kernel
theorem dLoan_init_83 : decode cLoan_init 83 = .ok (.putfield 43, 3) := by decide +kernel
theorem dLoan_init_86 : decode cLoan_init 86 = .ok (.aload_n 0, 1) := by decide +kernel
theorem dLoan_init_87 : decode cLoan_init 87 = .ok (.getfield 11, 3) := by decide +kernel
theorem dLoan_init_90 : decode cLoan_init 90 = .ok (.iload 6, 2) := by decide +kernel
theorem dLoan_init_92 : decode cLoan_init 92 = .ok (.aload_n 0, 1) := by decide +kernel
theorem dLoan_init_93 : decode cLoan_init 93 = .ok (.getfield 43, 3) := by decide +kernel
theorem dLoan_init_96 : decode cLoan_init 96 = .ok (.aastore, 1) := by decide +kernel
theorem dLoan_init_97 : decode cLoan_init 97 = .ok (.return_, 1) := by decide +kernel
theorem dLoan_dealWith_0 : decode cLoan_dealWith 0 = .ok (.iload_n 1, 1) := by decide +kernel
theorem dLoan_dealWith_1 : decode cLoan_dealWith 1 = .ok (.invokestatic 47, 3) := by decide +kernel
theorem dLoan_dealWith_4 : decode cLoan_dealWith 4 = .ok (.ifCond .eq 12, 3) := by decide +kernel
theorem dLoan_dealWith_7 : decode cLoan_dealWith 7 = .ok (.aload_n 0, 1) := by decide +kernel
theorem dLoan_dealWith_8 : decode cLoan_dealWith 8 = .ok (.getfield 11, 3) := by decide +kernel
theorem dLoan_dealWith_11 : decode cLoan_dealWith 11 = .ok (.iload_n 1, 1) := by decide +kernel
theorem dLoan_dealWith_12 : decode cLoan_dealWith 12 = .ok (.aaload, 1) := by decide +kernel
theorem dLoan_dealWith_13 : decode cLoan_dealWith 13 = .ok (.goto 4, 3) := by decide +kernel
theorem dLoan_dealWith_16 : decode cLoan_dealWith 16 = .ok (.aconst_null, 1) := by decide +kernel
theorem dLoan_dealWith_17 : decode cLoan_dealWith 17 = .ok (.areturn, 1) := by decide +kernel
theorem dLoan_turnToNext_0 : decode cLoan_turnToNext 0 = .ok (.iconst 1, 1) := by decide +kernel
theorem dLoan_turnToNext_1 : decode cLoan_turnToNext 1 = .ok (.istore_n 1, 1) := by decide +kernel
theorem dLoan_turnToNext_2 : decode cLoan_turnToNext 2 = .ok (.iload_n 1, 1) := by decide +kernel
theorem dLoan_turnToNext_3 : decode cLoan_turnToNext 3 = .ok (.bipush 6, 2) := by decide +kernel
theorem dLoan_turnToNext_5 : decode cLoan_turnToNext 5 = .ok (.if_icmp .ge 68, 3) := by decide +kernel
theorem dLoan_turnToNext_8 : decode cLoan_turnToNext 8 = .ok (.aload_n 0, 1) := by decide +kernel
theorem dLoan_turnToNext_9 : decode cLoan_turnToNext 9 = .ok (.getfield 34, 3) := by decide +kernel
theorem dLoan_turnToNext_12 : decode cLoan_turnToNext 12 = .ok (.iload_n 1, 1) := by decide +kernel
theorem dLoan_turnToNext_13 : decode cLoan_turnToNext 13 = .ok (.iadd, 1) := by decide +kernel
theorem dLoan_turnToNext_14 : decode cLoan_turnToNext 14 = .ok (.bipush 6, 2) := by decide +kernel
theorem dLoan_turnToNext_16 : decode cLoan_turnToNext 16 = .ok (.irem, 1) := by decide +kernel
theorem dLoan_turnToNext_17 : decode cLoan_turnToNext 17 = .ok (.istore_n 2, 1) := by decide +kernel
theorem dLoan_turnToNext_18 : decode cLoan_turnToNext 18 = .ok (.iload_n 2, 1) := by decide +kernel
theorem dLoan_turnToNext_19 : decode cLoan_turnToNext 19 = .ok (.aload_n 0, 1) := by decide +kernel
theorem dLoan_turnToNext_20 : decode cLoan_turnToNext 20 = .ok (.getfield 28, 3) := by decide +kernel
theorem dLoan_turnToNext_23 : decode cLoan_turnToNext 23 = .ok (.if_icmp .eq 44, 3) := by decide +kernel
theorem dLoan_turnToNext_26 : decode cLoan_turnToNext 26 = .ok (.aload_n 0, 1) := by decide +kernel
theorem dLoan_turnToNext_27 : decode cLoan_turnToNext 27 = .ok (.getfield 11, 3) := by decide +kernel
theorem dLoan_turnToNext_30 : decode cLoan_turnToNext 30 = .ok (.iload_n 2, 1) := by decide +kernel
theorem dLoan_turnToNext_31 : decode cLoan_turnToNext 31 = .ok (.aaload, 1) := by decide +kernel
theorem dLoan_turnToNext_32 : decode cLoan_turnToNext 32 = .ok (.ifnonnull 35, 3) := by decide +kernel
theorem dLoan_turnToNext_35 : decode cLoan_turnToNext 35 = .ok (.aload_n 0, 1) := by decide +kernel
theorem dLoan_turnToNext_36 : decode cLoan_turnToNext 36 = .ok (.new 9, 3) := by decide +kernel
theorem dLoan_turnToNext_39 : decode cLoan_turnToNext 39 = .ok (.dup, 1) := by decide +kernel
theorem dLoan_turnToNext_40 : decode cLoan_turnToNext 40 = .ok (.aload_n 0, 1) := by decide +kernel
theorem dLoan_turnToNext_41 : decode cLoan_turnToNext 41 = .ok (.getfield 24, 3) := by decide +kernel
theorem dLoan_turnToNext_44 : decode cLoan_turnToNext 44 = .ok (.aload_n 0, 1) := by decide +kernel
theorem dLoan_turnToNext_45 : decode cLoan_turnToNext 45 = .ok (.getfield 28, 3) := by decide +kernel
theorem dLoan_turnToNext_48 : decode cLoan_turnToNext 48 = .ok (.iload_n 2, 1) := by decide +kernel
theorem dLoan_turnToNext_49 : decode cLoan_turnToNext 49 = .ok (.invokespecial 40, 3) := by decide +kernel
theorem dLoan_turnToNext_52 : decode cLoan_turnToNext 52 = .ok (.putfield 43, 3) := by decide +kernel
theorem dLoan_turnToNext_55 : decode cLoan_turnToNext 55 = .ok (.aload_n 0, 1) := by decide +kernel
theorem dLoan_turnToNext_56 : decode cLoan_turnToNext 56 = .ok (.getfield 11, 3) := by decide +kernel
theorem dLoan_turnToNext_59 : decode cLoan_turnToNext 59 = .ok (.iload_n 2, 1) := by decide +kernel
theorem dLoan_turnToNext_60 : decode cLoan_turnToNext 60 = .ok (.aload_n 0, 1) := by decide +kernel
theorem dLoan_turnToNext_61 : decode cLoan_turnToNext 61 = .ok (.getfield 43, 3) := by decide +kernel
theorem dLoan_turnToNext_64 : decode cLoan_turnToNext 64 = .ok (.aastore, 1) := by decide +kernel
theorem dLoan_turnToNext_65 : decode cLoan_turnToNext 65 = .ok (.iconst 1, 1) := by decide +kernel
theorem dLoan_turnToNext_66 : decode cLoan_turnToNext 66 = .ok (.ireturn, 1) := by decide +kernel
theorem dLoan_turnToNext_67 : decode cLoan_turnToNext 67 = .ok (.iinc 1 1, 3) := by decide +kernel
theorem dLoan_turnToNext_70 : decode cLoan_turnToNext 70 = .ok (.goto (-68), 3) := by decide +kernel
theorem dLoan_turnToNext_73 : decode cLoan_turnToNext 73 = .ok (.iconst 0, 1) := by decide +kernel
theorem dLoan_turnToNext_74 : decode cLoan_turnToNext 74 = .ok (.ireturn, 1) := by decide +kernel
theorem dPage_init_0 : decode cPage_init 0 = .ok (.aload_n 0, 1) := by decide +kernel
theorem dPage_init_1 : decode cPage_init 1 = .ok (.invokespecial 1, 3) := by decide +kernel
theorem dPage_init_4 : decode cPage_init 4 = .ok (.return_, 1) := by decide +kernel
theorem dPage_clear_0 : decode cPage_clear 0 = .ok (.aload_n 0, 1) := by decide +kernel
theorem dPage_clear_1 : decode cPage_clear 1 = .ok (.iconst 0, 1) := by decide +kernel
theorem dPage_clear_2 : decode cPage_clear 2 = .ok (.putfield 7, 3) := by decide +kernel
theorem dPage_clear_5 : decode cPage_clear 5 = .ok (.aload_n 0, 1) := by decide +kernel
theorem dPage_clear_6 : decode cPage_clear 6 = .ok (.iconst 0, 1) := by decide +kernel
theorem dPage_clear_7 : decode cPage_clear 7 = .ok (.putfield 13, 3) := by decide +kernel
theorem dPage_clear_10 : decode cPage_clear 10 = .ok (.aload_n 0, 1) := by decide +kernel
theorem dPage_clear_11 : decode cPage_clear 11 = .ok (.iconst 0, 1) := by decide +kernel
theorem dPage_clear_12 : decode cPage_clear 12 = .ok (.putfield 16, 3) := by decide +kernel
theorem dPage_clear_15 : decode cPage_clear 15 = .ok (.return_, 1) := by decide +kernel
theorem dRow_init_0 : decode cRow_init 0 = .ok (.aload_n 0, 1) := by decide +kernel
theorem dRow_init_1 : decode cRow_init 1 = .ok (.invokespecial 1, 3) := by decide +kernel
theorem dRow_init_4 : decode cRow_init 4 = .ok (.aload_n 0, 1) := by decide +kernel
theorem dRow_init_5 : decode cRow_init 5 = .ok (.sipush 448, 3) := by decide +kernel
theorem dRow_init_8 : decode cRow_init 8 = .ok (.newarray .int, 2) := by decide +kernel
theorem dRow_init_10 : decode cRow_init 10 = .ok (.putfield 9, 3) := by decide +kernel
theorem dRow_init_13 : decode cRow_init 13 = .ok (.return_, 1) := by decide +kernel
theorem dRow_told_0 : decode cRow_told 0 = .ok (.iload_n 1, 1) := by decide +kernel
theorem dRow_told_1 : decode cRow_told 1 = .ok (.ifCond .lt 25, 3) := by decide +kernel
theorem dRow_told_4 : decode cRow_told 4 = .ok (.iload_n 1, 1) := by decide +kernel
theorem dRow_told_5 : decode cRow_told 5 = .ok (.aload_n 0, 1) := by decide +kernel
theorem dRow_told_6 : decode cRow_told 6 = .ok (.getfield 13, 3) := by decide +kernel
theorem dRow_told_9 : decode cRow_told 9 = .ok (.if_icmp .ge 17, 3) := by decide +kernel
theorem dRow_told_12 : decode cRow_told 12 = .ok (.iload_n 2, 1) := by decide +kernel
theorem dRow_told_13 : decode cRow_told 13 = .ok (.ifCond .lt 13, 3) := by decide +kernel
theorem dRow_told_16 : decode cRow_told 16 = .ok (.iload_n 2, 1) := by decide +kernel
theorem dRow_told_17 : decode cRow_told 17 = .ok (.bipush 7, 2) := by decide +kernel
theorem dRow_told_19 : decode cRow_told 19 = .ok (.if_icmp .ge 7, 3) := by decide +kernel
theorem dRow_told_22 : decode cRow_told 22 = .ok (.iconst 1, 1) := by decide +kernel
theorem dRow_told_23 : decode cRow_told 23 = .ok (.goto 4, 3) := by decide +kernel
theorem dRow_told_26 : decode cRow_told 26 = .ok (.iconst 0, 1) := by decide +kernel
theorem dRow_told_27 : decode cRow_told 27 = .ok (.istore_n 3, 1) := by decide +kernel
theorem dRow_told_28 : decode cRow_told 28 = .ok (.iload_n 3, 1) := by decide +kernel
theorem dRow_told_29 : decode cRow_told 29 = .ok (.ifCond .eq 17, 3) := by decide +kernel
theorem dRow_told_32 : decode cRow_told 32 = .ok (.aload_n 0, 1) := by decide +kernel
theorem dRow_told_33 : decode cRow_told 33 = .ok (.getfield 9, 3) := by decide +kernel
theorem dRow_told_36 : decode cRow_told 36 = .ok (.iload_n 1, 1) := by decide +kernel
theorem dRow_told_37 : decode cRow_told 37 = .ok (.bipush 7, 2) := by decide +kernel
theorem dRow_told_39 : decode cRow_told 39 = .ok (.imul, 1) := by decide +kernel
theorem dRow_told_40 : decode cRow_told 40 = .ok (.iload_n 2, 1) := by decide +kernel
theorem dRow_told_41 : decode cRow_told 41 = .ok (.iadd, 1) := by decide +kernel
theorem dRow_told_42 : decode cRow_told 42 = .ok (.iaload, 1) := by decide +kernel
theorem dRow_told_43 : decode cRow_told 43 = .ok (.goto 4, 3) := by decide +kernel
theorem dRow_told_46 : decode cRow_told 46 = .ok (.iconst (-1), 1) := by decide +kernel
theorem dRow_told_47 : decode cRow_told 47 = .ok (.ireturn, 1) := by decide +kernel
theorem dRow_add_0 : decode cRow_add 0 = .ok (.aload_n 0, 1) := by decide +kernel
theorem dRow_add_1 : decode cRow_add 1 = .ok (.getfield 13, 3) := by decide +kernel
theorem dRow_add_4 : decode cRow_add 4 = .ok (.bipush 64, 2) := by decide +kernel
theorem dRow_add_6 : decode cRow_add 6 = .ok (.if_icmp .lt 30, 3) := by decide +kernel
theorem dRow_add_9 : decode cRow_add 9 = .ok (.aload_n 0, 1) := by decide +kernel
theorem dRow_add_10 : decode cRow_add 10 = .ok (.bipush 63, 2) := by decide +kernel
theorem dRow_add_12 : decode cRow_add 12 = .ok (.putfield 13, 3) := by decide +kernel
theorem dRow_add_15 : decode cRow_add 15 = .ok (.aload_n 0, 1) := by decide +kernel
theorem dRow_add_16 : decode cRow_add 16 = .ok (.getfield 9, 3) := by decide +kernel
theorem dRow_add_19 : decode cRow_add 19 = .ok (.bipush 7, 2) := by decide +kernel
theorem dRow_add_21 : decode cRow_add 21 = .ok (.aload_n 0, 1) := by decide +kernel
theorem dRow_add_22 : decode cRow_add 22 = .ok (.getfield 9, 3) := by decide +kernel
theorem dRow_add_25 : decode cRow_add 25 = .ok (.iconst 0, 1) := by decide +kernel
theorem dRow_add_26 : decode cRow_add 26 = .ok (.aload_n 0, 1) := by decide +kernel
theorem dRow_add_27 : decode cRow_add 27 = .ok (.getfield 13, 3) := by decide +kernel
theorem dRow_add_30 : decode cRow_add 30 = .ok (.bipush 7, 2) := by decide +kernel
theorem dRow_add_32 : decode cRow_add 32 = .ok (.imul, 1) := by decide +kernel
theorem dRow_add_33 : decode cRow_add 33 = .ok (.invokestatic 19, 3) := by decide +kernel
theorem dRow_add_36 : decode cRow_add 36 = .ok (.aload_n 0, 1) := by decide +kernel
theorem dRow_add_37 : decode cRow_add 37 = .ok (.getfield 13, 3) := by decide +kernel
theorem dRow_add_40 : decode cRow_add 40 = .ok (.bipush 7, 2) := by decide +kernel
theorem dRow_add_42 : decode cRow_add 42 = .ok (.imul, 1) := by decide +kernel
theorem dRow_add_43 : decode cRow_add 43 = .ok (.istore_n 3, 1) := by decide +kernel
theorem dRow_add_44 : decode cRow_add 44 = .ok (.aload_n 0, 1) := by decide +kernel
theorem dRow_add_45 : decode cRow_add 45 = .ok (.getfield 9, 3) := by decide +kernel
theorem dRow_add_48 : decode cRow_add 48 = .ok (.iload_n 3, 1) := by decide +kernel
theorem dRow_add_49 : decode cRow_add 49 = .ok (.iconst 0, 1) := by decide +kernel
theorem dRow_add_50 : decode cRow_add 50 = .ok (.iadd, 1) := by decide +kernel
theorem dRow_add_51 : decode cRow_add 51 = .ok (.aload_n 1, 1) := by decide +kernel
theorem dRow_add_52 : decode cRow_add 52 = .ok (.getfield 25, 3) := by decide +kernel
theorem dRow_add_55 : decode cRow_add 55 = .ok (.iastore, 1) := by decide +kernel
theorem dRow_add_56 : decode cRow_add 56 = .ok (.aload_n 0, 1) := by decide +kernel
theorem dRow_add_57 : decode cRow_add 57 = .ok (.getfield 9, 3) := by decide +kernel
theorem dRow_add_60 : decode cRow_add 60 = .ok (.iload_n 3, 1) := by decide +kernel
theorem dRow_add_61 : decode cRow_add 61 = .ok (.iconst 1, 1) := by decide +kernel
theorem dRow_add_62 : decode cRow_add 62 = .ok (.iadd, 1) := by decide +kernel
theorem dRow_add_63 : decode cRow_add 63 = .ok (.aload_n 1, 1) := by decide +kernel
theorem dRow_add_64 : decode cRow_add 64 = .ok (.getfield 30, 3) := by decide +kernel
theorem dRow_add_67 : decode cRow_add 67 = .ok (.iastore, 1) := by decide +kernel
theorem dRow_add_68 : decode cRow_add 68 = .ok (.aload_n 0, 1) := by decide +kernel
theorem dRow_add_69 : decode cRow_add 69 = .ok (.getfield 9, 3) := by decide +kernel
theorem dRow_add_72 : decode cRow_add 72 = .ok (.iload_n 3, 1) := by decide +kernel
theorem dRow_add_73 : decode cRow_add 73 = .ok (.iconst 2, 1) := by decide +kernel
theorem dRow_add_74 : decode cRow_add 74 = .ok (.iadd, 1) := by decide +kernel
theorem dRow_add_75 : decode cRow_add 75 = .ok (.aload_n 1, 1) := by decide +kernel
theorem dRow_add_76 : decode cRow_add 76 = .ok (.getfield 33, 3) := by decide +kernel
theorem dRow_add_79 : decode cRow_add 79 = .ok (.iastore, 1) := by decide +kernel
theorem dRow_add_80 : decode cRow_add 80 = .ok (.aload_n 0, 1) := by decide +kernel
theorem dRow_add_81 : decode cRow_add 81 = .ok (.getfield 9, 3) := by decide +kernel
theorem dRow_add_84 : decode cRow_add 84 = .ok (.iload_n 3, 1) := by decide +kernel
theorem dRow_add_85 : decode cRow_add 85 = .ok (.iconst 3, 1) := by decide +kernel
theorem dRow_add_86 : decode cRow_add 86 = .ok (.iadd, 1) := by decide +kernel
theorem dRow_add_87 : decode cRow_add 87 = .ok (.aload_n 2, 1) := by decide +kernel
theorem dRow_add_88 : decode cRow_add 88 = .ok (.getfield 36, 3) := by decide +kernel
theorem dRow_add_91 : decode cRow_add 91 = .ok (.iastore, 1) := by decide +kernel
theorem dRow_add_92 : decode cRow_add 92 = .ok (.aload_n 0, 1) := by decide +kernel
theorem dRow_add_93 : decode cRow_add 93 = .ok (.getfield 9, 3) := by decide +kernel
theorem dRow_add_96 : decode cRow_add 96 = .ok (.iload_n 3, 1) := by decide +kernel
theorem dRow_add_97 : decode cRow_add 97 = .ok (.iconst 4, 1) := by decide +kernel
theorem dRow_add_98 : decode cRow_add 98 = .ok (.iadd, 1) := by decide +kernel
theorem dRow_add_99 : decode cRow_add 99 = .ok (.aload_n 1, 1) := by decide +kernel
theorem dRow_add_100 : decode cRow_add 100 = .ok (.getfield 41, 3) := by decide +kernel
theorem dRow_add_103 : decode cRow_add 103 = .ok (.iastore, 1) := by decide +kernel
theorem dRow_add_104 : decode cRow_add 104 = .ok (.aload_n 0, 1) := by decide +kernel
theorem dRow_add_105 : decode cRow_add 105 = .ok (.getfield 9, 3) := by decide +kernel
theorem dRow_add_108 : decode cRow_add 108 = .ok (.iload_n 3, 1) := by decide +kernel
theorem dRow_add_109 : decode cRow_add 109 = .ok (.iconst 5, 1) := by decide +kernel
theorem dRow_add_110 : decode cRow_add 110 = .ok (.iadd, 1) := by decide +kernel
theorem dRow_add_111 : decode cRow_add 111 = .ok (.aload_n 2, 1) := by decide +kernel
theorem dRow_add_112 : decode cRow_add 112 = .ok (.getfield 44, 3) := by decide +kernel
theorem dRow_add_115 : decode cRow_add 115 = .ok (.iastore, 1) := by decide +kernel
theorem dRow_add_116 : decode cRow_add 116 = .ok (.aload_n 0, 1) := by decide +kernel
theorem dRow_add_117 : decode cRow_add 117 = .ok (.getfield 9, 3) := by decide +kernel
theorem dRow_add_120 : decode cRow_add 120 = .ok (.iload_n 3, 1) := by decide +kernel
theorem dRow_add_121 : decode cRow_add 121 = .ok (.bipush 6, 2) := by decide +kernel
theorem dRow_add_123 : decode cRow_add 123 = .ok (.iadd, 1) := by decide +kernel
theorem dRow_add_124 : decode cRow_add 124 = .ok (.aload_n 2, 1) := by decide +kernel
theorem dRow_add_125 : decode cRow_add 125 = .ok (.getfield 47, 3) := by decide +kernel
theorem dRow_add_128 : decode cRow_add 128 = .ok (.iastore, 1) := by decide +kernel
theorem dRow_add_129 : decode cRow_add 129 = .ok (.aload_n 0, 1) := by decide +kernel
theorem dRow_add_130 : decode cRow_add 130 = .ok (.dup, 1) := by decide +kernel
theorem dRow_add_131 : decode cRow_add 131 = .ok (.getfield 13, 3) := by decide +kernel
theorem dRow_add_134 : decode cRow_add 134 = .ok (.iconst 1, 1) := by decide +kernel
theorem dRow_add_135 : decode cRow_add 135 = .ok (.iadd, 1) := by decide +kernel
theorem dRow_add_136 : decode cRow_add 136 = .ok (.putfield 13, 3) := by decide +kernel
theorem dRow_add_139 : decode cRow_add 139 = .ok (.return_, 1) := by decide +kernel
theorem dRow_remove_0 : decode cRow_remove 0 = .ok (.iload_n 1, 1) := by decide +kernel
theorem dRow_remove_1 : decode cRow_remove 1 = .ok (.ifCond .lt 11, 3) := by decide +kernel
theorem dRow_remove_4 : decode cRow_remove 4 = .ok (.iload_n 1, 1) := by decide +kernel
theorem dRow_remove_5 : decode cRow_remove 5 = .ok (.aload_n 0, 1) := by decide +kernel
theorem dRow_remove_6 : decode cRow_remove 6 = .ok (.getfield 13, 3) := by decide +kernel
theorem dRow_remove_9 : decode cRow_remove 9 = .ok (.if_icmp .lt 5, 3) := by decide +kernel
theorem dRow_remove_12 : decode cRow_remove 12 = .ok (.iconst 0, 1) := by decide +kernel
theorem dRow_remove_13 : decode cRow_remove 13 = .ok (.ireturn, 1) := by decide +kernel
theorem dRow_remove_14 : decode cRow_remove 14 = .ok (.aload_n 0, 1) := by decide +kernel
theorem dRow_remove_15 : decode cRow_remove 15 = .ok (.dup, 1) := by decide +kernel
theorem dRow_remove_16 : decode cRow_remove 16 = .ok (.getfield 13, 3) := by decide +kernel
theorem dRow_remove_19 : decode cRow_remove 19 = .ok (.iconst 1, 1) := by decide +kernel
theorem dRow_remove_20 : decode cRow_remove 20 = .ok (.isub, 1) := by decide +kernel
theorem dRow_remove_21 : decode cRow_remove 21 = .ok (.putfield 13, 3) := by decide +kernel
theorem dRow_remove_24 : decode cRow_remove 24 = .ok (.aload_n 0, 1) := by decide +kernel
theorem dRow_remove_25 : decode cRow_remove 25 = .ok (.getfield 9, 3) := by decide +kernel
theorem dRow_remove_28 : decode cRow_remove 28 = .ok (.iload_n 1, 1) := by decide +kernel
theorem dRow_remove_29 : decode cRow_remove 29 = .ok (.iconst 1, 1) := by decide +kernel
theorem dRow_remove_30 : decode cRow_remove 30 = .ok (.iadd, 1) := by decide +kernel
theorem dRow_remove_31 : decode cRow_remove 31 = .ok (.bipush 7, 2) := by decide +kernel
theorem dRow_remove_33 : decode cRow_remove 33 = .ok (.imul, 1) := by decide +kernel
theorem dRow_remove_34 : decode cRow_remove 34 = .ok (.aload_n 0, 1) := by decide +kernel
theorem dRow_remove_35 : decode cRow_remove 35 = .ok (.getfield 9, 3) := by decide +kernel
theorem dRow_remove_38 : decode cRow_remove 38 = .ok (.iload_n 1, 1) := by decide +kernel
