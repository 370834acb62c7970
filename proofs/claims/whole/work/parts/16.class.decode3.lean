theorem dL_supplierWrites_20 : decode cL_supplierWrites 20 = .ok (.ireturn, 1) := by decide +kernel
theorem dL_addToBalance_0 : decode cL_addToBalance 0 = .ok (.iload_n 1, 1) := by decide +kernel
theorem dL_addToBalance_1 : decode cL_addToBalance 1 = .ok (.invokestatic 43, 3) := by decide +kernel
theorem dL_addToBalance_4 : decode cL_addToBalance 4 = .ok (.ifCond .eq 13, 3) := by decide +kernel
theorem dL_addToBalance_7 : decode cL_addToBalance 7 = .ok (.aload_n 0, 1) := by decide +kernel
theorem dL_addToBalance_8 : decode cL_addToBalance 8 = .ok (.getfield 21, 3) := by decide +kernel
theorem dL_addToBalance_11 : decode cL_addToBalance 11 = .ok (.iload_n 1, 1) := by decide +kernel
theorem dL_addToBalance_12 : decode cL_addToBalance 12 = .ok (.dup2, 1) := by decide +kernel
theorem dL_addToBalance_13 : decode cL_addToBalance 13 = .ok (.iaload, 1) := by decide +kernel
theorem dL_addToBalance_14 : decode cL_addToBalance 14 = .ok (.iload_n 2, 1) := by decide +kernel
theorem dL_addToBalance_15 : decode cL_addToBalance 15 = .ok (.iadd, 1) := by decide +kernel
theorem dL_addToBalance_16 : decode cL_addToBalance 16 = .ok (.iastore, 1) := by decide +kernel
theorem dL_addToBalance_17 : decode cL_addToBalance 17 = .ok (.return_, 1) := by decide +kernel
theorem dL_requesterDoes_0 : decode cL_requesterDoes 0 = .ok (.iload_n 2, 1) := by decide +kernel
theorem dL_requesterDoes_1 : decode cL_requesterDoes 1 = .ok (.tableswitch 85 0 6 #[43, 49, 55, 61, 67, 73, 79], 43) := by decide +kernel
theorem dL_requesterDoes_44 : decode cL_requesterDoes 44 = .ok (.aload_n 0, 1) := by decide +kernel
theorem dL_requesterDoes_45 : decode cL_requesterDoes 45 = .ok (.aload_n 1, 1) := by decide +kernel
theorem dL_requesterDoes_46 : decode cL_requesterDoes 46 = .ok (.invokevirtual 261, 3) := by decide +kernel
theorem dL_requesterDoes_49 : decode cL_requesterDoes 49 = .ok (.ireturn, 1) := by decide +kernel
theorem dL_requesterDoes_50 : decode cL_requesterDoes 50 = .ok (.aload_n 0, 1) := by decide +kernel
theorem dL_requesterDoes_51 : decode cL_requesterDoes 51 = .ok (.aload_n 1, 1) := by decide +kernel
theorem dL_requesterDoes_52 : decode cL_requesterDoes 52 = .ok (.invokevirtual 265, 3) := by decide +kernel
theorem dL_requesterDoes_55 : decode cL_requesterDoes 55 = .ok (.ireturn, 1) := by decide +kernel
theorem dL_requesterDoes_56 : decode cL_requesterDoes 56 = .ok (.aload_n 0, 1) := by decide +kernel
theorem dL_requesterDoes_57 : decode cL_requesterDoes 57 = .ok (.aload_n 1, 1) := by decide +kernel
theorem dL_requesterDoes_58 : decode cL_requesterDoes 58 = .ok (.invokevirtual 268, 3) := by decide +kernel
theorem dL_requesterDoes_61 : decode cL_requesterDoes 61 = .ok (.ireturn, 1) := by decide +kernel
theorem dL_requesterDoes_62 : decode cL_requesterDoes 62 = .ok (.aload_n 0, 1) := by decide +kernel
theorem dL_requesterDoes_63 : decode cL_requesterDoes 63 = .ok (.aload_n 1, 1) := by decide +kernel
theorem dL_requesterDoes_64 : decode cL_requesterDoes 64 = .ok (.invokevirtual 271, 3) := by decide +kernel
theorem dL_requesterDoes_67 : decode cL_requesterDoes 67 = .ok (.ireturn, 1) := by decide +kernel
theorem dL_requesterDoes_68 : decode cL_requesterDoes 68 = .ok (.aload_n 0, 1) := by decide +kernel
theorem dL_requesterDoes_69 : decode cL_requesterDoes 69 = .ok (.aload_n 1, 1) := by decide +kernel
theorem dL_requesterDoes_70 : decode cL_requesterDoes 70 = .ok (.invokevirtual 274, 3) := by decide +kernel
theorem dL_requesterDoes_73 : decode cL_requesterDoes 73 = .ok (.ireturn, 1) := by decide +kernel
theorem dL_requesterDoes_74 : decode cL_requesterDoes 74 = .ok (.aload_n 0, 1) := by decide +kernel
theorem dL_requesterDoes_75 : decode cL_requesterDoes 75 = .ok (.aload_n 1, 1) := by decide +kernel
theorem dL_requesterDoes_76 : decode cL_requesterDoes 76 = .ok (.invokevirtual 277, 3) := by decide +kernel
theorem dL_requesterDoes_79 : decode cL_requesterDoes 79 = .ok (.ireturn, 1) := by decide +kernel
theorem dL_requesterDoes_80 : decode cL_requesterDoes 80 = .ok (.aload_n 0, 1) := by decide +kernel
theorem dL_requesterDoes_81 : decode cL_requesterDoes 81 = .ok (.aload_n 1, 1) := by decide +kernel
theorem dL_requesterDoes_82 : decode cL_requesterDoes 82 = .ok (.invokevirtual 280, 3) := by decide +kernel
theorem dL_requesterDoes_85 : decode cL_requesterDoes 85 = .ok (.ireturn, 1) := by decide +kernel
theorem dL_requesterDoes_86 : decode cL_requesterDoes 86 = .ok (.iconst 0, 1) := by decide +kernel
theorem dL_requesterDoes_87 : decode cL_requesterDoes 87 = .ok (.ireturn, 1) := by decide +kernel
theorem dL_accept_0 : decode cL_accept 0 = .ok (.aload_n 1, 1) := by decide +kernel
theorem dL_accept_1 : decode cL_accept 1 = .ok (.getfield 107, 3) := by decide +kernel
theorem dL_accept_4 : decode cL_accept 4 = .ok (.getfield 111, 3) := by decide +kernel
theorem dL_accept_7 : decode cL_accept 7 = .ok (.iconst 1, 1) := by decide +kernel
theorem dL_accept_8 : decode cL_accept 8 = .ok (.if_icmp .eq 5, 3) := by decide +kernel
theorem dL_accept_11 : decode cL_accept 11 = .ok (.iconst 0, 1) := by decide +kernel
theorem dL_accept_12 : decode cL_accept 12 = .ok (.ireturn, 1) := by decide +kernel
theorem dL_accept_13 : decode cL_accept 13 = .ok (.aload_n 0, 1) := by decide +kernel
theorem dL_accept_14 : decode cL_accept 14 = .ok (.aload_n 1, 1) := by decide +kernel
theorem dL_accept_15 : decode cL_accept 15 = .ok (.iconst 0, 1) := by decide +kernel
theorem dL_accept_16 : decode cL_accept 16 = .ok (.iconst 5, 1) := by decide +kernel
theorem dL_accept_17 : decode cL_accept 17 = .ok (.iconst 0, 1) := by decide +kernel
theorem dL_accept_18 : decode cL_accept 18 = .ok (.invokevirtual 81, 3) := by decide +kernel
theorem dL_accept_21 : decode cL_accept 21 = .ok (.ireturn, 1) := by decide +kernel
theorem dL_decline_0 : decode cL_decline 0 = .ok (.aload_n 1, 1) := by decide +kernel
theorem dL_decline_1 : decode cL_decline 1 = .ok (.getfield 107, 3) := by decide +kernel
theorem dL_decline_4 : decode cL_decline 4 = .ok (.getfield 111, 3) := by decide +kernel
theorem dL_decline_7 : decode cL_decline 7 = .ok (.iconst 1, 1) := by decide +kernel
theorem dL_decline_8 : decode cL_decline 8 = .ok (.if_icmp .eq 5, 3) := by decide +kernel
theorem dL_decline_11 : decode cL_decline 11 = .ok (.iconst 0, 1) := by decide +kernel
theorem dL_decline_12 : decode cL_decline 12 = .ok (.ireturn, 1) := by decide +kernel
theorem dL_decline_13 : decode cL_decline 13 = .ok (.aload_n 0, 1) := by decide +kernel
theorem dL_decline_14 : decode cL_decline 14 = .ok (.aload_n 1, 1) := by decide +kernel
theorem dL_decline_15 : decode cL_decline 15 = .ok (.getfield 212, 3) := by decide +kernel
theorem dL_decline_18 : decode cL_decline 18 = .ok (.getfield 169, 3) := by decide +kernel
theorem dL_decline_21 : decode cL_decline 21 = .ok (.bipush 6, 2) := by decide +kernel
theorem dL_decline_23 : decode cL_decline 23 = .ok (.iconst 0, 1) := by decide +kernel
theorem dL_decline_24 : decode cL_decline 24 = .ok (.invokevirtual 257, 3) := by decide +kernel
theorem dL_decline_27 : decode cL_decline 27 = .ok (.aload_n 0, 1) := by decide +kernel
theorem dL_decline_28 : decode cL_decline 28 = .ok (.aload_n 1, 1) := by decide +kernel
theorem dL_decline_29 : decode cL_decline 29 = .ok (.invokevirtual 283, 3) := by decide +kernel
theorem dL_decline_32 : decode cL_decline 32 = .ok (.ireturn, 1) := by decide +kernel
theorem dL_askNext_0 : decode cL_askNext 0 = .ok (.aload_n 1, 1) := by decide +kernel
theorem dL_askNext_1 : decode cL_askNext 1 = .ok (.getfield 107, 3) := by decide +kernel
theorem dL_askNext_4 : decode cL_askNext 4 = .ok (.invokevirtual 286, 3) := by decide +kernel
theorem dL_askNext_7 : decode cL_askNext 7 = .ok (.aload_n 1, 1) := by decide +kernel
theorem dL_askNext_8 : decode cL_askNext 8 = .ok (.invokevirtual 289, 3) := by decide +kernel
theorem dL_askNext_11 : decode cL_askNext 11 = .ok (.ifCond .eq 30, 3) := by decide +kernel
theorem dL_askNext_14 : decode cL_askNext 14 = .ok (.aload_n 1, 1) := by decide +kernel
theorem dL_askNext_15 : decode cL_askNext 15 = .ok (.getfield 107, 3) := by decide +kernel
theorem dL_askNext_18 : decode cL_askNext 18 = .ok (.iconst 0, 1) := by decide +kernel
theorem dL_askNext_19 : decode cL_askNext 19 = .ok (.putfield 111, 3) := by decide +kernel
theorem dL_askNext_22 : decode cL_askNext 22 = .ok (.aload_n 0, 1) := by decide +kernel
theorem dL_askNext_23 : decode cL_askNext 23 = .ok (.aload_n 1, 1) := by decide +kernel
theorem dL_askNext_24 : decode cL_askNext 24 = .ok (.getfield 212, 3) := by decide +kernel
theorem dL_askNext_27 : decode cL_askNext 27 = .ok (.getfield 169, 3) := by decide +kernel
theorem dL_askNext_30 : decode cL_askNext 30 = .ok (.iconst 1, 1) := by decide +kernel
theorem dL_askNext_31 : decode cL_askNext 31 = .ok (.aload_n 1, 1) := by decide +kernel
theorem dL_askNext_32 : decode cL_askNext 32 = .ok (.getfield 292, 3) := by decide +kernel
theorem dL_askNext_35 : decode cL_askNext 35 = .ok (.invokevirtual 257, 3) := by decide +kernel
theorem dL_askNext_38 : decode cL_askNext 38 = .ok (.goto 12, 3) := by decide +kernel
theorem dL_askNext_41 : decode cL_askNext 41 = .ok (.aload_n 1, 1) := by decide +kernel
theorem dL_askNext_42 : decode cL_askNext 42 = .ok (.getfield 107, 3) := by decide +kernel
theorem dL_askNext_45 : decode cL_askNext 45 = .ok (.bipush 9, 2) := by decide +kernel
theorem dL_askNext_47 : decode cL_askNext 47 = .ok (.putfield 111, 3) := by decide +kernel
theorem dL_askNext_50 : decode cL_askNext 50 = .ok (.iconst 1, 1) := by decide +kernel
theorem dL_askNext_51 : decode cL_askNext 51 = .ok (.ireturn, 1) := by decide +kernel
theorem dL_cancel_0 : decode cL_cancel 0 = .ok (.aload_n 1, 1) := by decide +kernel
theorem dL_cancel_1 : decode cL_cancel 1 = .ok (.getfield 107, 3) := by decide +kernel
theorem dL_cancel_4 : decode cL_cancel 4 = .ok (.getfield 111, 3) := by decide +kernel
theorem dL_cancel_7 : decode cL_cancel 7 = .ok (.istore_n 2, 1) := by decide +kernel
theorem dL_cancel_8 : decode cL_cancel 8 = .ok (.iload_n 2, 1) := by decide +kernel
theorem dL_cancel_9 : decode cL_cancel 9 = .ok (.ifCond .eq 15, 3) := by decide +kernel
theorem dL_cancel_12 : decode cL_cancel 12 = .ok (.iload_n 2, 1) := by decide +kernel
theorem dL_cancel_13 : decode cL_cancel 13 = .ok (.iconst 1, 1) := by decide +kernel
theorem dL_cancel_14 : decode cL_cancel 14 = .ok (.if_icmp .eq 10, 3) := by decide +kernel
theorem dL_cancel_17 : decode cL_cancel 17 = .ok (.iload_n 2, 1) := by decide +kernel
theorem dL_cancel_18 : decode cL_cancel 18 = .ok (.iconst 2, 1) := by decide +kernel
theorem dL_cancel_19 : decode cL_cancel 19 = .ok (.if_icmp .eq 5, 3) := by decide +kernel
theorem dL_cancel_22 : decode cL_cancel 22 = .ok (.iconst 0, 1) := by decide +kernel
theorem dL_cancel_23 : decode cL_cancel 23 = .ok (.ireturn, 1) := by decide +kernel
theorem dL_cancel_24 : decode cL_cancel 24 = .ok (.aload_n 0, 1) := by decide +kernel
theorem dL_cancel_25 : decode cL_cancel 25 = .ok (.aload_n 1, 1) := by decide +kernel
theorem dL_cancel_26 : decode cL_cancel 26 = .ok (.bipush 10, 2) := by decide +kernel
theorem dL_cancel_28 : decode cL_cancel 28 = .ok (.bipush 15, 2) := by decide +kernel
theorem dL_cancel_30 : decode cL_cancel 30 = .ok (.iconst 0, 1) := by decide +kernel
theorem dL_cancel_31 : decode cL_cancel 31 = .ok (.invokevirtual 81, 3) := by decide +kernel
theorem dL_cancel_34 : decode cL_cancel 34 = .ok (.ireturn, 1) := by decide +kernel
theorem dL_receive_0 : decode cL_receive 0 = .ok (.aload_n 1, 1) := by decide +kernel
theorem dL_receive_1 : decode cL_receive 1 = .ok (.getfield 107, 3) := by decide +kernel
theorem dL_receive_4 : decode cL_receive 4 = .ok (.getfield 111, 3) := by decide +kernel
theorem dL_receive_7 : decode cL_receive 7 = .ok (.iconst 3, 1) := by decide +kernel
theorem dL_receive_8 : decode cL_receive 8 = .ok (.if_icmp .eq 5, 3) := by decide +kernel
theorem dL_receive_11 : decode cL_receive 11 = .ok (.iconst 0, 1) := by decide +kernel
theorem dL_receive_12 : decode cL_receive 12 = .ok (.ireturn, 1) := by decide +kernel
theorem dL_receive_13 : decode cL_receive 13 = .ok (.aload_n 1, 1) := by decide +kernel
theorem dL_receive_14 : decode cL_receive 14 = .ok (.getfield 212, 3) := by decide +kernel
theorem dL_receive_17 : decode cL_receive 17 = .ok (.aload_n 1, 1) := by decide +kernel
theorem dL_receive_18 : decode cL_receive 18 = .ok (.getfield 96, 3) := by decide +kernel
theorem dL_receive_21 : decode cL_receive 21 = .ok (.invokevirtual 295, 3) := by decide +kernel
theorem dL_receive_24 : decode cL_receive 24 = .ok (.aload_n 0, 1) := by decide +kernel
theorem dL_receive_25 : decode cL_receive 25 = .ok (.aload_n 1, 1) := by decide +kernel
theorem dL_receive_26 : decode cL_receive 26 = .ok (.iconst 4, 1) := by decide +kernel
theorem dL_receive_27 : decode cL_receive 27 = .ok (.bipush 8, 2) := by decide +kernel
theorem dL_receive_29 : decode cL_receive 29 = .ok (.iconst 0, 1) := by decide +kernel
theorem dL_receive_30 : decode cL_receive 30 = .ok (.invokevirtual 81, 3) := by decide +kernel
theorem dL_receive_33 : decode cL_receive 33 = .ok (.ireturn, 1) := by decide +kernel
theorem dL_renew_0 : decode cL_renew 0 = .ok (.aload_n 1, 1) := by decide +kernel
theorem dL_renew_1 : decode cL_renew 1 = .ok (.getfield 107, 3) := by decide +kernel
theorem dL_renew_4 : decode cL_renew 4 = .ok (.getfield 111, 3) := by decide +kernel
theorem dL_renew_7 : decode cL_renew 7 = .ok (.iconst 4, 1) := by decide +kernel
theorem dL_renew_8 : decode cL_renew 8 = .ok (.if_icmp .eq 5, 3) := by decide +kernel
theorem dL_renew_11 : decode cL_renew 11 = .ok (.iconst 0, 1) := by decide +kernel
theorem dL_renew_12 : decode cL_renew 12 = .ok (.ireturn, 1) := by decide +kernel
theorem dL_renew_13 : decode cL_renew 13 = .ok (.aload_n 0, 1) := by decide +kernel
theorem dL_renew_14 : decode cL_renew 14 = .ok (.aload_n 1, 1) := by decide +kernel
theorem dL_renew_15 : decode cL_renew 15 = .ok (.iconst 5, 1) := by decide +kernel
theorem dL_renew_16 : decode cL_renew 16 = .ok (.bipush 9, 2) := by decide +kernel
theorem dL_renew_18 : decode cL_renew 18 = .ok (.iconst 0, 1) := by decide +kernel
theorem dL_renew_19 : decode cL_renew 19 = .ok (.invokevirtual 81, 3) := by decide +kernel
theorem dL_renew_22 : decode cL_renew 22 = .ok (.ireturn, 1) := by decide +kernel
theorem dL_giveBack_0 : decode cL_giveBack 0 = .ok (.aload_n 1, 1) := by decide +kernel
theorem dL_giveBack_1 : decode cL_giveBack 1 = .ok (.getfield 107, 3) := by decide +kernel
theorem dL_giveBack_4 : decode cL_giveBack 4 = .ok (.getfield 111, 3) := by decide +kernel
theorem dL_giveBack_7 : decode cL_giveBack 7 = .ok (.invokestatic 203, 3) := by decide +kernel
theorem dL_giveBack_10 : decode cL_giveBack 10 = .ok (.ifCond .ne 5, 3) := by decide +kernel
theorem dL_giveBack_13 : decode cL_giveBack 13 = .ok (.iconst 0, 1) := by decide +kernel
theorem dL_giveBack_14 : decode cL_giveBack 14 = .ok (.ireturn, 1) := by decide +kernel
theorem dL_giveBack_15 : decode cL_giveBack 15 = .ok (.aload_n 1, 1) := by decide +kernel
theorem dL_giveBack_16 : decode cL_giveBack 16 = .ok (.getfield 212, 3) := by decide +kernel
theorem dL_giveBack_19 : decode cL_giveBack 19 = .ok (.bipush 6, 2) := by decide +kernel
theorem dL_giveBack_21 : decode cL_giveBack 21 = .ok (.invokevirtual 295, 3) := by decide +kernel
theorem dL_giveBack_24 : decode cL_giveBack 24 = .ok (.aload_n 0, 1) := by decide +kernel
theorem dL_giveBack_25 : decode cL_giveBack 25 = .ok (.aload_n 1, 1) := by decide +kernel
theorem dL_giveBack_26 : decode cL_giveBack 26 = .ok (.bipush 7, 2) := by decide +kernel
theorem dL_giveBack_28 : decode cL_giveBack 28 = .ok (.bipush 12, 2) := by decide +kernel
theorem dL_giveBack_30 : decode cL_giveBack 30 = .ok (.iconst 0, 1) := by decide +kernel
theorem dL_giveBack_31 : decode cL_giveBack 31 = .ok (.invokevirtual 81, 3) := by decide +kernel
theorem dL_giveBack_34 : decode cL_giveBack 34 = .ok (.ireturn, 1) := by decide +kernel
theorem dL_lose_0 : decode cL_lose 0 = .ok (.aload_n 1, 1) := by decide +kernel
theorem dL_lose_1 : decode cL_lose 1 = .ok (.getfield 107, 3) := by decide +kernel
theorem dL_lose_4 : decode cL_lose 4 = .ok (.getfield 111, 3) := by decide +kernel
theorem dL_lose_7 : decode cL_lose 7 = .ok (.invokestatic 203, 3) := by decide +kernel
theorem dL_lose_10 : decode cL_lose 10 = .ok (.ifCond .ne 5, 3) := by decide +kernel
theorem dL_lose_13 : decode cL_lose 13 = .ok (.iconst 0, 1) := by decide +kernel
theorem dL_lose_14 : decode cL_lose 14 = .ok (.ireturn, 1) := by decide +kernel
theorem dL_lose_15 : decode cL_lose 15 = .ok (.aload_n 1, 1) := by decide +kernel
theorem dL_lose_16 : decode cL_lose 16 = .ok (.getfield 212, 3) := by decide +kernel
theorem dL_lose_19 : decode cL_lose 19 = .ok (.bipush 7, 2) := by decide +kernel
theorem dL_lose_21 : decode cL_lose 21 = .ok (.invokevirtual 295, 3) := by decide +kernel
theorem dL_lose_24 : decode cL_lose 24 = .ok (.aload_n 0, 1) := by decide +kernel
theorem dL_lose_25 : decode cL_lose 25 = .ok (.aload_n 1, 1) := by decide +kernel
theorem dL_lose_26 : decode cL_lose 26 = .ok (.getfield 96, 3) := by decide +kernel
theorem dL_lose_29 : decode cL_lose 29 = .ok (.sipush (-4000), 3) := by decide +kernel
theorem dL_lose_32 : decode cL_lose 32 = .ok (.invokevirtual 298, 3) := by decide +kernel
theorem dL_lose_35 : decode cL_lose 35 = .ok (.aload_n 0, 1) := by decide +kernel
theorem dL_lose_36 : decode cL_lose 36 = .ok (.aload_n 1, 1) := by decide +kernel
theorem dL_lose_37 : decode cL_lose 37 = .ok (.bipush 12, 2) := by decide +kernel
theorem dL_lose_39 : decode cL_lose 39 = .ok (.bipush 14, 2) := by decide +kernel
theorem dL_lose_41 : decode cL_lose 41 = .ok (.iconst 0, 1) := by decide +kernel
theorem dL_lose_42 : decode cL_lose 42 = .ok (.invokevirtual 81, 3) := by decide +kernel
theorem dL_lose_45 : decode cL_lose 45 = .ok (.ireturn, 1) := by decide +kernel
theorem dL_supplierDoes_0 : decode cL_supplierDoes 0 = .ok (.iload_n 3, 1) := by decide +kernel
theorem dL_supplierDoes_1 : decode cL_supplierDoes 1 = .ok (.tableswitch 106 7 14 #[47, 60, 68, 74, 81, 88, 94, 100], 47) := by decide +kernel
theorem dL_supplierDoes_48 : decode cL_supplierDoes 48 = .ok (.aload_n 0, 1) := by decide +kernel
theorem dL_supplierDoes_49 : decode cL_supplierDoes 49 = .ok (.aload_n 1, 1) := by decide +kernel
theorem dL_supplierDoes_50 : decode cL_supplierDoes 50 = .ok (.aload_n 2, 1) := by decide +kernel
theorem dL_supplierDoes_51 : decode cL_supplierDoes 51 = .ok (.aload_n 0, 1) := by decide +kernel
theorem dL_supplierDoes_52 : decode cL_supplierDoes 52 = .ok (.iload 4, 2) := by decide +kernel
theorem dL_supplierDoes_54 : decode cL_supplierDoes 54 = .ok (.invokevirtual 219, 3) := by decide +kernel
theorem dL_supplierDoes_57 : decode cL_supplierDoes 57 = .ok (.invokevirtual 301, 3) := by decide +kernel
theorem dL_supplierDoes_60 : decode cL_supplierDoes 60 = .ok (.ireturn, 1) := by decide +kernel
theorem dL_supplierDoes_61 : decode cL_supplierDoes 61 = .ok (.aload_n 0, 1) := by decide +kernel
theorem dL_supplierDoes_62 : decode cL_supplierDoes 62 = .ok (.aload_n 2, 1) := by decide +kernel
theorem dL_supplierDoes_63 : decode cL_supplierDoes 63 = .ok (.iload 4, 2) := by decide +kernel
theorem dL_supplierDoes_65 : decode cL_supplierDoes 65 = .ok (.invokevirtual 305, 3) := by decide +kernel
theorem dL_supplierDoes_68 : decode cL_supplierDoes 68 = .ok (.ireturn, 1) := by decide +kernel
theorem dL_supplierDoes_69 : decode cL_supplierDoes 69 = .ok (.aload_n 0, 1) := by decide +kernel
theorem dL_supplierDoes_70 : decode cL_supplierDoes 70 = .ok (.aload_n 2, 1) := by decide +kernel
theorem dL_supplierDoes_71 : decode cL_supplierDoes 71 = .ok (.invokevirtual 309, 3) := by decide +kernel
theorem dL_supplierDoes_74 : decode cL_supplierDoes 74 = .ok (.ireturn, 1) := by decide +kernel
theorem dL_supplierDoes_75 : decode cL_supplierDoes 75 = .ok (.aload_n 0, 1) := by decide +kernel
theorem dL_supplierDoes_76 : decode cL_supplierDoes 76 = .ok (.aload_n 1, 1) := by decide +kernel
theorem dL_supplierDoes_77 : decode cL_supplierDoes 77 = .ok (.aload_n 2, 1) := by decide +kernel
theorem dL_supplierDoes_78 : decode cL_supplierDoes 78 = .ok (.invokevirtual 313, 3) := by decide +kernel
theorem dL_supplierDoes_81 : decode cL_supplierDoes 81 = .ok (.ireturn, 1) := by decide +kernel
theorem dL_supplierDoes_82 : decode cL_supplierDoes 82 = .ok (.aload_n 0, 1) := by decide +kernel
theorem dL_supplierDoes_83 : decode cL_supplierDoes 83 = .ok (.aload_n 1, 1) := by decide +kernel
theorem dL_supplierDoes_84 : decode cL_supplierDoes 84 = .ok (.aload_n 2, 1) := by decide +kernel
theorem dL_supplierDoes_85 : decode cL_supplierDoes 85 = .ok (.invokevirtual 317, 3) := by decide +kernel
theorem dL_supplierDoes_88 : decode cL_supplierDoes 88 = .ok (.ireturn, 1) := by decide +kernel
theorem dL_supplierDoes_89 : decode cL_supplierDoes 89 = .ok (.aload_n 0, 1) := by decide +kernel
theorem dL_supplierDoes_90 : decode cL_supplierDoes 90 = .ok (.aload_n 2, 1) := by decide +kernel
theorem dL_supplierDoes_91 : decode cL_supplierDoes 91 = .ok (.invokevirtual 320, 3) := by decide +kernel
theorem dL_supplierDoes_94 : decode cL_supplierDoes 94 = .ok (.ireturn, 1) := by decide +kernel
theorem dL_supplierDoes_95 : decode cL_supplierDoes 95 = .ok (.aload_n 0, 1) := by decide +kernel
theorem dL_supplierDoes_96 : decode cL_supplierDoes 96 = .ok (.aload_n 2, 1) := by decide +kernel
theorem dL_supplierDoes_97 : decode cL_supplierDoes 97 = .ok (.invokevirtual 323, 3) := by decide +kernel
theorem dL_supplierDoes_100 : decode cL_supplierDoes 100 = .ok (.ireturn, 1) := by decide +kernel
theorem dL_supplierDoes_101 : decode cL_supplierDoes 101 = .ok (.aload_n 0, 1) := by decide +kernel
theorem dL_supplierDoes_102 : decode cL_supplierDoes 102 = .ok (.aload_n 2, 1) := by decide +kernel
theorem dL_supplierDoes_103 : decode cL_supplierDoes 103 = .ok (.invokevirtual 326, 3) := by decide +kernel
theorem dL_supplierDoes_106 : decode cL_supplierDoes 106 = .ok (.ireturn, 1) := by decide +kernel
theorem dL_supplierDoes_107 : decode cL_supplierDoes 107 = .ok (.iconst 0, 1) := by decide +kernel
theorem dL_supplierDoes_108 : decode cL_supplierDoes 108 = .ok (.ireturn, 1) := by decide +kernel
theorem dL_promiseCopy_0 : decode cL_promiseCopy 0 = .ok (.aload_n 2, 1) := by decide +kernel
theorem dL_promiseCopy_1 : decode cL_promiseCopy 1 = .ok (.getfield 128, 3) := by decide +kernel
theorem dL_promiseCopy_4 : decode cL_promiseCopy 4 = .ok (.getfield 111, 3) := by decide +kernel
theorem dL_promiseCopy_7 : decode cL_promiseCopy 7 = .ok (.iconst 1, 1) := by decide +kernel
theorem dL_promiseCopy_8 : decode cL_promiseCopy 8 = .ok (.if_icmp .ne 22, 3) := by decide +kernel
theorem dL_promiseCopy_11 : decode cL_promiseCopy 11 = .ok (.aload_n 3, 1) := by decide +kernel
theorem dL_promiseCopy_12 : decode cL_promiseCopy 12 = .ok (.ifnull 18, 3) := by decide +kernel
theorem dL_promiseCopy_15 : decode cL_promiseCopy 15 = .ok (.aload_n 3, 1) := by decide +kernel
theorem dL_promiseCopy_16 : decode cL_promiseCopy 16 = .ok (.aload_n 2, 1) := by decide +kernel
theorem dL_promiseCopy_17 : decode cL_promiseCopy 17 = .ok (.getfield 216, 3) := by decide +kernel
theorem dL_promiseCopy_20 : decode cL_promiseCopy 20 = .ok (.aload_n 1, 1) := by decide +kernel
theorem dL_promiseCopy_21 : decode cL_promiseCopy 21 = .ok (.getfield 237, 3) := by decide +kernel
theorem dL_promiseCopy_24 : decode cL_promiseCopy 24 = .ok (.invokevirtual 329, 3) := by decide +kernel
theorem dL_promiseCopy_27 : decode cL_promiseCopy 27 = .ok (.ifCond .ne 5, 3) := by decide +kernel
theorem dL_promiseCopy_30 : decode cL_promiseCopy 30 = .ok (.iconst 0, 1) := by decide +kernel
theorem dL_promiseCopy_31 : decode cL_promiseCopy 31 = .ok (.ireturn, 1) := by decide +kernel
theorem dL_promiseCopy_32 : decode cL_promiseCopy 32 = .ok (.aload_n 2, 1) := by decide +kernel
theorem dL_promiseCopy_33 : decode cL_promiseCopy 33 = .ok (.aload_n 3, 1) := by decide +kernel
theorem dL_promiseCopy_34 : decode cL_promiseCopy 34 = .ok (.putfield 333, 3) := by decide +kernel
theorem dL_promiseCopy_37 : decode cL_promiseCopy 37 = .ok (.aload_n 3, 1) := by decide +kernel
theorem dL_promiseCopy_38 : decode cL_promiseCopy 38 = .ok (.aload_n 1, 1) := by decide +kernel
theorem dL_promiseCopy_39 : decode cL_promiseCopy 39 = .ok (.getfield 85, 3) := by decide +kernel
theorem dL_promiseCopy_42 : decode cL_promiseCopy 42 = .ok (.putfield 226, 3) := by decide +kernel
theorem dL_promiseCopy_45 : decode cL_promiseCopy 45 = .ok (.aload_n 0, 1) := by decide +kernel
theorem dL_promiseCopy_46 : decode cL_promiseCopy 46 = .ok (.aload_n 2, 1) := by decide +kernel
theorem dL_promiseCopy_47 : decode cL_promiseCopy 47 = .ok (.iconst 3, 1) := by decide +kernel
theorem dL_promiseCopy_48 : decode cL_promiseCopy 48 = .ok (.iconst 2, 1) := by decide +kernel
theorem dL_promiseCopy_49 : decode cL_promiseCopy 49 = .ok (.iconst 0, 1) := by decide +kernel
theorem dL_promiseCopy_50 : decode cL_promiseCopy 50 = .ok (.invokevirtual 337, 3) := by decide +kernel
theorem dL_promiseCopy_53 : decode cL_promiseCopy 53 = .ok (.ireturn, 1) := by decide +kernel
theorem dL_offer_0 : decode cL_offer 0 = .ok (.aload_n 1, 1) := by decide +kernel
theorem dL_offer_1 : decode cL_offer 1 = .ok (.getfield 128, 3) := by decide +kernel
theorem dL_offer_4 : decode cL_offer 4 = .ok (.getfield 243, 3) := by decide +kernel
theorem dL_offer_7 : decode cL_offer 7 = .ok (.ifCond .eq 7, 3) := by decide +kernel
theorem dL_offer_10 : decode cL_offer 10 = .ok (.iconst 1, 1) := by decide +kernel
theorem dL_offer_11 : decode cL_offer 11 = .ok (.goto 4, 3) := by decide +kernel
theorem dL_offer_14 : decode cL_offer 14 = .ok (.iconst 0, 1) := by decide +kernel
theorem dL_offer_15 : decode cL_offer 15 = .ok (.istore_n 3, 1) := by decide +kernel
theorem dL_offer_16 : decode cL_offer 16 = .ok (.aload_n 1, 1) := by decide +kernel
theorem dL_offer_17 : decode cL_offer 17 = .ok (.getfield 128, 3) := by decide +kernel
theorem dL_offer_20 : decode cL_offer 20 = .ok (.getfield 111, 3) := by decide +kernel
theorem dL_offer_23 : decode cL_offer 23 = .ok (.iconst 1, 1) := by decide +kernel
theorem dL_offer_24 : decode cL_offer 24 = .ok (.if_icmp .ne 19, 3) := by decide +kernel
theorem dL_offer_27 : decode cL_offer 27 = .ok (.iload_n 3, 1) := by decide +kernel
theorem dL_offer_28 : decode cL_offer 28 = .ok (.ifCond .ne 15, 3) := by decide +kernel
theorem dL_offer_31 : decode cL_offer 31 = .ok (.iload_n 2, 1) := by decide +kernel
theorem dL_offer_32 : decode cL_offer 32 = .ok (.iconst 1, 1) := by decide +kernel
theorem dL_offer_33 : decode cL_offer 33 = .ok (.if_icmp .lt 10, 3) := by decide +kernel
theorem dL_offer_36 : decode cL_offer 36 = .ok (.iload_n 2, 1) := by decide +kernel
theorem dL_offer_37 : decode cL_offer 37 = .ok (.sipush 1000, 3) := by decide +kernel
theorem dL_offer_40 : decode cL_offer 40 = .ok (.if_icmp .le 5, 3) := by decide +kernel
theorem dL_offer_43 : decode cL_offer 43 = .ok (.iconst 0, 1) := by decide +kernel
theorem dL_offer_44 : decode cL_offer 44 = .ok (.ireturn, 1) := by decide +kernel
theorem dL_offer_45 : decode cL_offer 45 = .ok (.aload_n 1, 1) := by decide +kernel
theorem dL_offer_46 : decode cL_offer 46 = .ok (.getfield 128, 3) := by decide +kernel
theorem dL_offer_49 : decode cL_offer 49 = .ok (.iload_n 2, 1) := by decide +kernel
theorem dL_offer_50 : decode cL_offer 50 = .ok (.putfield 243, 3) := by decide +kernel
theorem dL_offer_53 : decode cL_offer 53 = .ok (.aload_n 0, 1) := by decide +kernel
theorem dL_offer_54 : decode cL_offer 54 = .ok (.aload_n 1, 1) := by decide +kernel
theorem dL_offer_55 : decode cL_offer 55 = .ok (.iconst 2, 1) := by decide +kernel
theorem dL_offer_56 : decode cL_offer 56 = .ok (.iconst 3, 1) := by decide +kernel
theorem dL_offer_57 : decode cL_offer 57 = .ok (.iload_n 2, 1) := by decide +kernel
theorem dL_offer_58 : decode cL_offer 58 = .ok (.invokevirtual 337, 3) := by decide +kernel
theorem dL_offer_61 : decode cL_offer 61 = .ok (.ireturn, 1) := by decide +kernel
theorem dL_refuse_0 : decode cL_refuse 0 = .ok (.aload_n 1, 1) := by decide +kernel
theorem dL_refuse_1 : decode cL_refuse 1 = .ok (.getfield 128, 3) := by decide +kernel
theorem dL_refuse_4 : decode cL_refuse 4 = .ok (.getfield 111, 3) := by decide +kernel
theorem dL_refuse_7 : decode cL_refuse 7 = .ok (.iconst 1, 1) := by decide +kernel
theorem dL_refuse_8 : decode cL_refuse 8 = .ok (.if_icmp .eq 5, 3) := by decide +kernel
theorem dL_refuse_11 : decode cL_refuse 11 = .ok (.iconst 0, 1) := by decide +kernel
theorem dL_refuse_12 : decode cL_refuse 12 = .ok (.ireturn, 1) := by decide +kernel
theorem dL_refuse_13 : decode cL_refuse 13 = .ok (.aload_n 0, 1) := by decide +kernel
theorem dL_refuse_14 : decode cL_refuse 14 = .ok (.aload_n 1, 1) := by decide +kernel
theorem dL_refuse_15 : decode cL_refuse 15 = .ok (.bipush 10, 2) := by decide +kernel
theorem dL_refuse_17 : decode cL_refuse 17 = .ok (.iconst 4, 1) := by decide +kernel
theorem dL_refuse_18 : decode cL_refuse 18 = .ok (.iconst 0, 1) := by decide +kernel
theorem dL_refuse_19 : decode cL_refuse 19 = .ok (.invokevirtual 337, 3) := by decide +kernel
theorem dL_refuse_22 : decode cL_refuse 22 = .ok (.ireturn, 1) := by decide +kernel
theorem dL_ship_0 : decode cL_ship 0 = .ok (.aload_n 2, 1) := by decide +kernel
theorem dL_ship_1 : decode cL_ship 1 = .ok (.getfield 128, 3) := by decide +kernel
theorem dL_ship_4 : decode cL_ship 4 = .ok (.getfield 111, 3) := by decide +kernel
theorem dL_ship_7 : decode cL_ship 7 = .ok (.iconst 3, 1) := by decide +kernel
theorem dL_ship_8 : decode cL_ship 8 = .ok (.if_icmp .eq 5, 3) := by decide +kernel
theorem dL_ship_11 : decode cL_ship 11 = .ok (.iconst 0, 1) := by decide +kernel
theorem dL_ship_12 : decode cL_ship 12 = .ok (.ireturn, 1) := by decide +kernel
theorem dL_ship_13 : decode cL_ship 13 = .ok (.aload_n 2, 1) := by decide +kernel
theorem dL_ship_14 : decode cL_ship 14 = .ok (.bipush 6, 2) := by decide +kernel
theorem dL_ship_16 : decode cL_ship 16 = .ok (.invokevirtual 295, 3) := by decide +kernel
theorem dL_ship_19 : decode cL_ship 19 = .ok (.aload_n 2, 1) := by decide +kernel
theorem dL_ship_20 : decode cL_ship 20 = .ok (.getfield 128, 3) := by decide +kernel
theorem dL_ship_23 : decode cL_ship 23 = .ok (.aload_n 0, 1) := by decide +kernel
theorem dL_ship_24 : decode cL_ship 24 = .ok (.getfield 131, 3) := by decide +kernel
theorem dL_ship_27 : decode cL_ship 27 = .ok (.aload_n 1, 1) := by decide +kernel
theorem dL_ship_28 : decode cL_ship 28 = .ok (.getfield 292, 3) := by decide +kernel
theorem dL_ship_31 : decode cL_ship 31 = .ok (.iadd, 1) := by decide +kernel
theorem dL_ship_32 : decode cL_ship 32 = .ok (.putfield 240, 3) := by decide +kernel
theorem dL_ship_35 : decode cL_ship 35 = .ok (.aload_n 0, 1) := by decide +kernel
theorem dL_ship_36 : decode cL_ship 36 = .ok (.aload_n 2, 1) := by decide +kernel
theorem dL_ship_37 : decode cL_ship 37 = .ok (.iconst 4, 1) := by decide +kernel
theorem dL_ship_38 : decode cL_ship 38 = .ok (.bipush 7, 2) := by decide +kernel
theorem dL_ship_40 : decode cL_ship 40 = .ok (.aload_n 2, 1) := by decide +kernel
theorem dL_ship_41 : decode cL_ship 41 = .ok (.getfield 128, 3) := by decide +kernel
theorem dL_ship_44 : decode cL_ship 44 = .ok (.getfield 240, 3) := by decide +kernel
theorem dL_ship_47 : decode cL_ship 47 = .ok (.invokevirtual 337, 3) := by decide +kernel
theorem dL_ship_50 : decode cL_ship 50 = .ok (.ireturn, 1) := by decide +kernel
theorem dL_grant_0 : decode cL_grant 0 = .ok (.aload_n 2, 1) := by decide +kernel
theorem dL_grant_1 : decode cL_grant 1 = .ok (.getfield 128, 3) := by decide +kernel
theorem dL_grant_4 : decode cL_grant 4 = .ok (.getfield 111, 3) := by decide +kernel
theorem dL_grant_7 : decode cL_grant 7 = .ok (.bipush 6, 2) := by decide +kernel
theorem dL_grant_9 : decode cL_grant 9 = .ok (.if_icmp .ne 11, 3) := by decide +kernel
theorem dL_grant_12 : decode cL_grant 12 = .ok (.aload_n 2, 1) := by decide +kernel
theorem dL_grant_13 : decode cL_grant 13 = .ok (.getfield 341, 3) := by decide +kernel
theorem dL_grant_16 : decode cL_grant 16 = .ok (.iconst 3, 1) := by decide +kernel
theorem dL_grant_17 : decode cL_grant 17 = .ok (.if_icmp .lt 5, 3) := by decide +kernel
theorem dL_grant_20 : decode cL_grant 20 = .ok (.iconst 0, 1) := by decide +kernel
theorem dL_grant_21 : decode cL_grant 21 = .ok (.ireturn, 1) := by decide +kernel
theorem dL_grant_22 : decode cL_grant 22 = .ok (.aload_n 2, 1) := by decide +kernel
theorem dL_grant_23 : decode cL_grant 23 = .ok (.dup, 1) := by decide +kernel
theorem dL_grant_24 : decode cL_grant 24 = .ok (.getfield 341, 3) := by decide +kernel
theorem dL_grant_27 : decode cL_grant 27 = .ok (.iconst 1, 1) := by decide +kernel
theorem dL_grant_28 : decode cL_grant 28 = .ok (.iadd, 1) := by decide +kernel
theorem dL_grant_29 : decode cL_grant 29 = .ok (.putfield 341, 3) := by decide +kernel
theorem dL_grant_32 : decode cL_grant 32 = .ok (.aload_n 2, 1) := by decide +kernel
theorem dL_grant_33 : decode cL_grant 33 = .ok (.getfield 128, 3) := by decide +kernel
theorem dL_grant_36 : decode cL_grant 36 = .ok (.dup, 1) := by decide +kernel
theorem dL_grant_37 : decode cL_grant 37 = .ok (.getfield 240, 3) := by decide +kernel
theorem dL_grant_40 : decode cL_grant 40 = .ok (.aload_n 1, 1) := by decide +kernel
theorem dL_grant_41 : decode cL_grant 41 = .ok (.getfield 292, 3) := by decide +kernel
theorem dL_grant_44 : decode cL_grant 44 = .ok (.iadd, 1) := by decide +kernel
theorem dL_grant_45 : decode cL_grant 45 = .ok (.putfield 240, 3) := by decide +kernel
theorem dL_grant_48 : decode cL_grant 48 = .ok (.aload_n 0, 1) := by decide +kernel
theorem dL_grant_49 : decode cL_grant 49 = .ok (.aload_n 2, 1) := by decide +kernel
theorem dL_grant_50 : decode cL_grant 50 = .ok (.iconst 5, 1) := by decide +kernel
theorem dL_grant_51 : decode cL_grant 51 = .ok (.bipush 10, 2) := by decide +kernel
theorem dL_grant_53 : decode cL_grant 53 = .ok (.aload_n 2, 1) := by decide +kernel
theorem dL_grant_54 : decode cL_grant 54 = .ok (.getfield 128, 3) := by decide +kernel
theorem dL_grant_57 : decode cL_grant 57 = .ok (.getfield 240, 3) := by decide +kernel
theorem dL_grant_60 : decode cL_grant 60 = .ok (.invokevirtual 337, 3) := by decide +kernel
theorem dL_grant_63 : decode cL_grant 63 = .ok (.ireturn, 1) := by decide +kernel
theorem dL_deny_0 : decode cL_deny 0 = .ok (.aload_n 1, 1) := by decide +kernel
theorem dL_deny_1 : decode cL_deny 1 = .ok (.getfield 128, 3) := by decide +kernel
theorem dL_deny_4 : decode cL_deny 4 = .ok (.getfield 111, 3) := by decide +kernel
theorem dL_deny_7 : decode cL_deny 7 = .ok (.bipush 6, 2) := by decide +kernel
theorem dL_deny_9 : decode cL_deny 9 = .ok (.if_icmp .eq 5, 3) := by decide +kernel
theorem dL_deny_12 : decode cL_deny 12 = .ok (.iconst 0, 1) := by decide +kernel
theorem dL_deny_13 : decode cL_deny 13 = .ok (.ireturn, 1) := by decide +kernel
theorem dL_deny_14 : decode cL_deny 14 = .ok (.aload_n 0, 1) := by decide +kernel
theorem dL_deny_15 : decode cL_deny 15 = .ok (.aload_n 1, 1) := by decide +kernel
theorem dL_deny_16 : decode cL_deny 16 = .ok (.iconst 5, 1) := by decide +kernel
theorem dL_deny_17 : decode cL_deny 17 = .ok (.bipush 10, 2) := by decide +kernel
theorem dL_deny_19 : decode cL_deny 19 = .ok (.iconst 0, 1) := by decide +kernel
theorem dL_deny_20 : decode cL_deny 20 = .ok (.invokevirtual 337, 3) := by decide +kernel
theorem dL_deny_23 : decode cL_deny 23 = .ok (.ireturn, 1) := by decide +kernel
theorem dL_recall_0 : decode cL_recall 0 = .ok (.aload_n 1, 1) := by decide +kernel
theorem dL_recall_1 : decode cL_recall 1 = .ok (.getfield 128, 3) := by decide +kernel
theorem dL_recall_4 : decode cL_recall 4 = .ok (.getfield 111, 3) := by decide +kernel
theorem dL_recall_7 : decode cL_recall 7 = .ok (.iconst 5, 1) := by decide +kernel
theorem dL_recall_8 : decode cL_recall 8 = .ok (.if_icmp .eq 17, 3) := by decide +kernel
theorem dL_recall_11 : decode cL_recall 11 = .ok (.aload_n 1, 1) := by decide +kernel
theorem dL_recall_12 : decode cL_recall 12 = .ok (.getfield 128, 3) := by decide +kernel
