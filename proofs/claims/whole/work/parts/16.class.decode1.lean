theorem dRow_remove_39 : decode cRow_remove 39 = .ok (.bipush 7, 2) := by decide +kernel
theorem dRow_remove_41 : decode cRow_remove 41 = .ok (.imul, 1) := by decide +kernel
theorem dRow_remove_42 : decode cRow_remove 42 = .ok (.aload_n 0, 1) := by decide +kernel
theorem dRow_remove_43 : decode cRow_remove 43 = .ok (.getfield 13, 3) := by decide +kernel
theorem dRow_remove_46 : decode cRow_remove 46 = .ok (.iload_n 1, 1) := by decide +kernel
theorem dRow_remove_47 : decode cRow_remove 47 = .ok (.isub, 1) := by decide +kernel
theorem dRow_remove_48 : decode cRow_remove 48 = .ok (.bipush 7, 2) := by decide +kernel
theorem dRow_remove_50 : decode cRow_remove 50 = .ok (.imul, 1) := by decide +kernel
theorem dRow_remove_51 : decode cRow_remove 51 = .ok (.invokestatic 19, 3) := by decide +kernel
theorem dRow_remove_54 : decode cRow_remove 54 = .ok (.iconst 1, 1) := by decide +kernel
theorem dRow_remove_55 : decode cRow_remove 55 = .ok (.ireturn, 1) := by decide +kernel
theorem dSide_init_0 : decode cSide_init 0 = .ok (.aload_n 0, 1) := by decide +kernel
theorem dSide_init_1 : decode cSide_init 1 = .ok (.invokespecial 1, 3) := by decide +kernel
theorem dSide_init_4 : decode cSide_init 4 = .ok (.aload_n 0, 1) := by decide +kernel
theorem dSide_init_5 : decode cSide_init 5 = .ok (.new 7, 3) := by decide +kernel
theorem dSide_init_8 : decode cSide_init 8 = .ok (.dup, 1) := by decide +kernel
theorem dSide_init_9 : decode cSide_init 9 = .ok (.invokespecial 9, 3) := by decide +kernel
theorem dSide_init_12 : decode cSide_init 12 = .ok (.putfield 10, 3) := by decide +kernel
theorem dSide_init_15 : decode cSide_init 15 = .ok (.aload_n 0, 1) := by decide +kernel
theorem dSide_init_16 : decode cSide_init 16 = .ok (.iload_n 1, 1) := by decide +kernel
theorem dSide_init_17 : decode cSide_init 17 = .ok (.putfield 16, 3) := by decide +kernel
theorem dSide_init_20 : decode cSide_init 20 = .ok (.aload_n 0, 1) := by decide +kernel
theorem dSide_init_21 : decode cSide_init 21 = .ok (.iload_n 2, 1) := by decide +kernel
theorem dSide_init_22 : decode cSide_init 22 = .ok (.putfield 20, 3) := by decide +kernel
theorem dSide_init_25 : decode cSide_init 25 = .ok (.aload_n 0, 1) := by decide +kernel
theorem dSide_init_26 : decode cSide_init 26 = .ok (.iload_n 3, 1) := by decide +kernel
theorem dSide_init_27 : decode cSide_init 27 = .ok (.putfield 23, 3) := by decide +kernel
theorem dSide_init_30 : decode cSide_init 30 = .ok (.return_, 1) := by decide +kernel
theorem dSide_isFull_0 : decode cSide_isFull 0 = .ok (.aload_n 0, 1) := by decide +kernel
theorem dSide_isFull_1 : decode cSide_isFull 1 = .ok (.getfield 10, 3) := by decide +kernel
theorem dSide_isFull_4 : decode cSide_isFull 4 = .ok (.invokevirtual 26, 3) := by decide +kernel
theorem dSide_isFull_7 : decode cSide_isFull 7 = .ok (.sipush 512, 3) := by decide +kernel
theorem dSide_isFull_10 : decode cSide_isFull 10 = .ok (.if_icmp .lt 7, 3) := by decide +kernel
theorem dSide_isFull_13 : decode cSide_isFull 13 = .ok (.iconst 1, 1) := by decide +kernel
theorem dSide_isFull_14 : decode cSide_isFull 14 = .ok (.goto 4, 3) := by decide +kernel
theorem dSide_isFull_17 : decode cSide_isFull 17 = .ok (.iconst 0, 1) := by decide +kernel
theorem dSide_isFull_18 : decode cSide_isFull 18 = .ok (.ireturn, 1) := by decide +kernel
theorem dSide_write_0 : decode cSide_write 0 = .ok (.new 30, 3) := by decide +kernel
theorem dSide_write_3 : decode cSide_write 3 = .ok (.dup, 1) := by decide +kernel
theorem dSide_write_4 : decode cSide_write 4 = .ok (.aload_n 0, 1) := by decide +kernel
theorem dSide_write_5 : decode cSide_write 5 = .ok (.getfield 10, 3) := by decide +kernel
theorem dSide_write_8 : decode cSide_write 8 = .ok (.invokevirtual 26, 3) := by decide +kernel
theorem dSide_write_11 : decode cSide_write 11 = .ok (.iconst 1, 1) := by decide +kernel
theorem dSide_write_12 : decode cSide_write 12 = .ok (.iadd, 1) := by decide +kernel
theorem dSide_write_13 : decode cSide_write 13 = .ok (.iload_n 1, 1) := by decide +kernel
theorem dSide_write_14 : decode cSide_write 14 = .ok (.iload_n 2, 1) := by decide +kernel
theorem dSide_write_15 : decode cSide_write 15 = .ok (.invokespecial 32, 3) := by decide +kernel
theorem dSide_write_18 : decode cSide_write 18 = .ok (.astore_n 3, 1) := by decide +kernel
theorem dSide_write_19 : decode cSide_write 19 = .ok (.aload_n 0, 1) := by decide +kernel
theorem dSide_write_20 : decode cSide_write 20 = .ok (.getfield 10, 3) := by decide +kernel
theorem dSide_write_23 : decode cSide_write 23 = .ok (.aload_n 3, 1) := by decide +kernel
theorem dSide_write_24 : decode cSide_write 24 = .ok (.invokevirtual 35, 3) := by decide +kernel
theorem dSide_write_27 : decode cSide_write 27 = .ok (.pop, 1) := by decide +kernel
theorem dSide_write_28 : decode cSide_write 28 = .ok (.aload_n 3, 1) := by decide +kernel
theorem dSide_write_29 : decode cSide_write 29 = .ok (.areturn, 1) := by decide +kernel
theorem dSide_holdAtGoal_0 : decode cSide_holdAtGoal 0 = .ok (.iload_n 1, 1) := by decide +kernel
theorem dSide_holdAtGoal_1 : decode cSide_holdAtGoal 1 = .ok (.iconst 1, 1) := by decide +kernel
theorem dSide_holdAtGoal_2 : decode cSide_holdAtGoal 2 = .ok (.if_icmp .lt 31, 3) := by decide +kernel
theorem dSide_holdAtGoal_5 : decode cSide_holdAtGoal 5 = .ok (.iload_n 1, 1) := by decide +kernel
theorem dSide_holdAtGoal_6 : decode cSide_holdAtGoal 6 = .ok (.aload_n 0, 1) := by decide +kernel
theorem dSide_holdAtGoal_7 : decode cSide_holdAtGoal 7 = .ok (.getfield 10, 3) := by decide +kernel
theorem dSide_holdAtGoal_10 : decode cSide_holdAtGoal 10 = .ok (.invokevirtual 26, 3) := by decide +kernel
theorem dSide_holdAtGoal_13 : decode cSide_holdAtGoal 13 = .ok (.if_icmp .gt 20, 3) := by decide +kernel
theorem dSide_holdAtGoal_16 : decode cSide_holdAtGoal 16 = .ok (.aload_n 0, 1) := by decide +kernel
theorem dSide_holdAtGoal_17 : decode cSide_holdAtGoal 17 = .ok (.getfield 10, 3) := by decide +kernel
theorem dSide_holdAtGoal_20 : decode cSide_holdAtGoal 20 = .ok (.iload_n 1, 1) := by decide +kernel
theorem dSide_holdAtGoal_21 : decode cSide_holdAtGoal 21 = .ok (.iconst 1, 1) := by decide +kernel
theorem dSide_holdAtGoal_22 : decode cSide_holdAtGoal 22 = .ok (.isub, 1) := by decide +kernel
theorem dSide_holdAtGoal_23 : decode cSide_holdAtGoal 23 = .ok (.invokevirtual 39, 3) := by decide +kernel
theorem dSide_holdAtGoal_26 : decode cSide_holdAtGoal 26 = .ok (.checkcast 30, 3) := by decide +kernel
theorem dSide_holdAtGoal_29 : decode cSide_holdAtGoal 29 = .ok (.iconst 1, 1) := by decide +kernel
theorem dSide_holdAtGoal_30 : decode cSide_holdAtGoal 30 = .ok (.putfield 43, 3) := by decide +kernel
theorem dSide_holdAtGoal_33 : decode cSide_holdAtGoal 33 = .ok (.return_, 1) := by decide +kernel
theorem dSide_allTakenAndKnown_0 : decode cSide_allTakenAndKnown 0 = .ok (.aload_n 1, 1) := by decide +kernel
theorem dSide_allTakenAndKnown_1 : decode cSide_allTakenAndKnown 1 = .ok (.getfield 47, 3) := by decide +kernel
theorem dSide_allTakenAndKnown_4 : decode cSide_allTakenAndKnown 4 = .ok (.aload_n 0, 1) := by decide +kernel
theorem dSide_allTakenAndKnown_5 : decode cSide_allTakenAndKnown 5 = .ok (.getfield 10, 3) := by decide +kernel
theorem dSide_allTakenAndKnown_8 : decode cSide_allTakenAndKnown 8 = .ok (.invokevirtual 26, 3) := by decide +kernel
theorem dSide_allTakenAndKnown_11 : decode cSide_allTakenAndKnown 11 = .ok (.if_icmp .ne 21, 3) := by decide +kernel
theorem dSide_allTakenAndKnown_14 : decode cSide_allTakenAndKnown 14 = .ok (.aload_n 0, 1) := by decide +kernel
theorem dSide_allTakenAndKnown_15 : decode cSide_allTakenAndKnown 15 = .ok (.getfield 50, 3) := by decide +kernel
theorem dSide_allTakenAndKnown_18 : decode cSide_allTakenAndKnown 18 = .ok (.aload_n 0, 1) := by decide +kernel
theorem dSide_allTakenAndKnown_19 : decode cSide_allTakenAndKnown 19 = .ok (.getfield 10, 3) := by decide +kernel
theorem dSide_allTakenAndKnown_22 : decode cSide_allTakenAndKnown 22 = .ok (.invokevirtual 26, 3) := by decide +kernel
theorem dSide_allTakenAndKnown_25 : decode cSide_allTakenAndKnown 25 = .ok (.if_icmp .ne 7, 3) := by decide +kernel
theorem dSide_allTakenAndKnown_28 : decode cSide_allTakenAndKnown 28 = .ok (.iconst 1, 1) := by decide +kernel
theorem dSide_allTakenAndKnown_29 : decode cSide_allTakenAndKnown 29 = .ok (.goto 4, 3) := by decide +kernel
theorem dSide_allTakenAndKnown_32 : decode cSide_allTakenAndKnown 32 = .ok (.iconst 0, 1) := by decide +kernel
theorem dSide_allTakenAndKnown_33 : decode cSide_allTakenAndKnown 33 = .ok (.ireturn, 1) := by decide +kernel
theorem dL_init_0 : decode cL_init 0 = .ok (.aload_n 0, 1) := by decide +kernel
theorem dL_init_1 : decode cL_init 1 = .ok (.invokespecial 1, 3) := by decide +kernel
theorem dL_init_4 : decode cL_init 4 = .ok (.aload_n 0, 1) := by decide +kernel
theorem dL_init_5 : decode cL_init 5 = .ok (.bipush 32, 2) := by decide +kernel
theorem dL_init_7 : decode cL_init 7 = .ok (.anewarray 9, 3) := by decide +kernel
theorem dL_init_10 : decode cL_init 10 = .ok (.putfield 11, 3) := by decide +kernel
theorem dL_init_13 : decode cL_init 13 = .ok (.aload_n 0, 1) := by decide +kernel
theorem dL_init_14 : decode cL_init 14 = .ok (.bipush 32, 2) := by decide +kernel
theorem dL_init_16 : decode cL_init 16 = .ok (.anewarray 15, 3) := by decide +kernel
theorem dL_init_19 : decode cL_init 19 = .ok (.putfield 17, 3) := by decide +kernel
theorem dL_init_22 : decode cL_init 22 = .ok (.aload_n 0, 1) := by decide +kernel
theorem dL_init_23 : decode cL_init 23 = .ok (.bipush 6, 2) := by decide +kernel
theorem dL_init_25 : decode cL_init 25 = .ok (.newarray .int, 2) := by decide +kernel
theorem dL_init_27 : decode cL_init 27 = .ok (.putfield 21, 3) := by decide +kernel
theorem dL_init_30 : decode cL_init 30 = .ok (.aload_n 0, 1) := by decide +kernel
theorem dL_init_31 : decode cL_init 31 = .ok (.new 25, 3) := by decide +kernel
theorem dL_init_34 : decode cL_init 34 = .ok (.dup, 1) := by decide +kernel
theorem dL_init_35 : decode cL_init 35 = .ok (.invokespecial 27, 3) := by decide +kernel
theorem dL_init_38 : decode cL_init 38 = .ok (.putfield 28, 3) := by decide +kernel
theorem dL_init_41 : decode cL_init 41 = .ok (.aload_n 0, 1) := by decide +kernel
theorem dL_init_42 : decode cL_init 42 = .ok (.new 32, 3) := by decide +kernel
theorem dL_init_45 : decode cL_init 45 = .ok (.dup, 1) := by decide +kernel
theorem dL_init_46 : decode cL_init 46 = .ok (.iconst 0, 1) := by decide +kernel
theorem dL_init_47 : decode cL_init 47 = .ok (.iconst 0, 1) := by decide +kernel
theorem dL_init_48 : decode cL_init 48 = .ok (.iconst 0, 1) := by decide +kernel
theorem dL_init_49 : decode cL_init 49 = .ok (.invokespecial 36, 3) := by decide +kernel
theorem dL_init_52 : decode cL_init 52 = .ok (.putfield 39, 3) := by decide +kernel
theorem dL_init_55 : decode cL_init 55 = .ok (.return_, 1) := by decide +kernel
theorem dL_addCopy_0 : decode cL_addCopy 0 = .ok (.iload_n 1, 1) := by decide +kernel
theorem dL_addCopy_1 : decode cL_addCopy 1 = .ok (.invokestatic 43, 3) := by decide +kernel
theorem dL_addCopy_4 : decode cL_addCopy 4 = .ok (.ifCond .eq 10, 3) := by decide +kernel
theorem dL_addCopy_7 : decode cL_addCopy 7 = .ok (.iload_n 2, 1) := by decide +kernel
theorem dL_addCopy_8 : decode cL_addCopy 8 = .ok (.invokestatic 47, 3) := by decide +kernel
theorem dL_addCopy_11 : decode cL_addCopy 11 = .ok (.ifCond .ne 13, 3) := by decide +kernel
theorem dL_addCopy_14 : decode cL_addCopy 14 = .ok (.new 50, 3) := by decide +kernel
theorem dL_addCopy_17 : decode cL_addCopy 17 = .ok (.dup, 1) := by decide +kernel
theorem dL_addCopy_18 : decode cL_addCopy 18 = .ok (.ldc 52, 2) := by decide +kernel
theorem dL_addCopy_20 : decode cL_addCopy 20 = .ok (.invokespecial 54, 3) := by decide +kernel
theorem dL_addCopy_23 : decode cL_addCopy 23 = .ok (.athrow, 1) := by decide +kernel
theorem dL_addCopy_24 : decode cL_addCopy 24 = .ok (.aload_n 0, 1) := by decide +kernel
theorem dL_addCopy_25 : decode cL_addCopy 25 = .ok (.getfield 57, 3) := by decide +kernel
theorem dL_addCopy_28 : decode cL_addCopy 28 = .ok (.bipush 32, 2) := by decide +kernel
theorem dL_addCopy_30 : decode cL_addCopy 30 = .ok (.if_icmp .lt 13, 3) := by decide +kernel
theorem dL_addCopy_33 : decode cL_addCopy 33 = .ok (.new 61, 3) := by decide +kernel
theorem dL_addCopy_36 : decode cL_addCopy 36 = .ok (.dup, 1) := by decide +kernel
theorem dL_addCopy_37 : decode cL_addCopy 37 = .ok (.ldc 63, 2) := by decide +kernel
theorem dL_addCopy_39 : decode cL_addCopy 39 = .ok (.invokespecial 65, 3) := by decide +kernel
theorem dL_addCopy_42 : decode cL_addCopy 42 = .ok (.athrow, 1) := by decide +kernel
theorem dL_addCopy_43 : decode cL_addCopy 43 = .ok (.aload_n 0, 1) := by decide +kernel
theorem dL_addCopy_44 : decode cL_addCopy 44 = .ok (.getfield 11, 3) := by decide +kernel
theorem dL_addCopy_47 : decode cL_addCopy 47 = .ok (.aload_n 0, 1) := by decide +kernel
theorem dL_addCopy_48 : decode cL_addCopy 48 = .ok (.getfield 57, 3) := by decide +kernel
theorem dL_addCopy_51 : decode cL_addCopy 51 = .ok (.new 9, 3) := by decide +kernel
theorem dL_addCopy_54 : decode cL_addCopy 54 = .ok (.dup, 1) := by decide +kernel
theorem dL_addCopy_55 : decode cL_addCopy 55 = .ok (.iload_n 1, 1) := by decide +kernel
theorem dL_addCopy_56 : decode cL_addCopy 56 = .ok (.iload_n 2, 1) := by decide +kernel
theorem dL_addCopy_57 : decode cL_addCopy 57 = .ok (.invokespecial 66, 3) := by decide +kernel
theorem dL_addCopy_60 : decode cL_addCopy 60 = .ok (.aastore, 1) := by decide +kernel
theorem dL_addCopy_61 : decode cL_addCopy 61 = .ok (.aload_n 0, 1) := by decide +kernel
theorem dL_addCopy_62 : decode cL_addCopy 62 = .ok (.dup, 1) := by decide +kernel
theorem dL_addCopy_63 : decode cL_addCopy 63 = .ok (.getfield 57, 3) := by decide +kernel
theorem dL_addCopy_66 : decode cL_addCopy 66 = .ok (.iconst 1, 1) := by decide +kernel
theorem dL_addCopy_67 : decode cL_addCopy 67 = .ok (.iadd, 1) := by decide +kernel
theorem dL_addCopy_68 : decode cL_addCopy 68 = .ok (.putfield 57, 3) := by decide +kernel
theorem dL_addCopy_71 : decode cL_addCopy 71 = .ok (.aload_n 0, 1) := by decide +kernel
theorem dL_addCopy_72 : decode cL_addCopy 72 = .ok (.getfield 57, 3) := by decide +kernel
theorem dL_addCopy_75 : decode cL_addCopy 75 = .ok (.iconst 1, 1) := by decide +kernel
theorem dL_addCopy_76 : decode cL_addCopy 76 = .ok (.isub, 1) := by decide +kernel
theorem dL_addCopy_77 : decode cL_addCopy 77 = .ok (.ireturn, 1) := by decide +kernel
theorem dL_request_0 : decode cL_request 0 = .ok (.iload_n 1, 1) := by decide +kernel
theorem dL_request_1 : decode cL_request 1 = .ok (.invokestatic 43, 3) := by decide +kernel
theorem dL_request_4 : decode cL_request 4 = .ok (.ifCond .eq 30, 3) := by decide +kernel
theorem dL_request_7 : decode cL_request 7 = .ok (.iload_n 2, 1) := by decide +kernel
theorem dL_request_8 : decode cL_request 8 = .ok (.invokestatic 47, 3) := by decide +kernel
theorem dL_request_11 : decode cL_request 11 = .ok (.ifCond .eq 23, 3) := by decide +kernel
theorem dL_request_14 : decode cL_request 14 = .ok (.iload_n 3, 1) := by decide +kernel
theorem dL_request_15 : decode cL_request 15 = .ok (.invokestatic 43, 3) := by decide +kernel
theorem dL_request_18 : decode cL_request 18 = .ok (.ifCond .eq 16, 3) := by decide +kernel
theorem dL_request_21 : decode cL_request 21 = .ok (.iload 4, 2) := by decide +kernel
theorem dL_request_23 : decode cL_request 23 = .ok (.iconst 1, 1) := by decide +kernel
theorem dL_request_24 : decode cL_request 24 = .ok (.if_icmp .lt 10, 3) := by decide +kernel
theorem dL_request_27 : decode cL_request 27 = .ok (.iload 4, 2) := by decide +kernel
theorem dL_request_29 : decode cL_request 29 = .ok (.bipush 99, 2) := by decide +kernel
theorem dL_request_31 : decode cL_request 31 = .ok (.if_icmp .le 13, 3) := by decide +kernel
theorem dL_request_34 : decode cL_request 34 = .ok (.new 50, 3) := by decide +kernel
theorem dL_request_37 : decode cL_request 37 = .ok (.dup, 1) := by decide +kernel
theorem dL_request_38 : decode cL_request 38 = .ok (.ldc 69, 2) := by decide +kernel
theorem dL_request_40 : decode cL_request 40 = .ok (.invokespecial 54, 3) := by decide +kernel
theorem dL_request_43 : decode cL_request 43 = .ok (.athrow, 1) := by decide +kernel
theorem dL_request_44 : decode cL_request 44 = .ok (.aload_n 0, 1) := by decide +kernel
theorem dL_request_45 : decode cL_request 45 = .ok (.getfield 71, 3) := by decide +kernel
theorem dL_request_48 : decode cL_request 48 = .ok (.bipush 32, 2) := by decide +kernel
theorem dL_request_50 : decode cL_request 50 = .ok (.if_icmp .lt 13, 3) := by decide +kernel
theorem dL_request_53 : decode cL_request 53 = .ok (.new 61, 3) := by decide +kernel
theorem dL_request_56 : decode cL_request 56 = .ok (.dup, 1) := by decide +kernel
theorem dL_request_57 : decode cL_request 57 = .ok (.ldc 74, 2) := by decide +kernel
theorem dL_request_59 : decode cL_request 59 = .ok (.invokespecial 65, 3) := by decide +kernel
theorem dL_request_62 : decode cL_request 62 = .ok (.athrow, 1) := by decide +kernel
theorem dL_request_63 : decode cL_request 63 = .ok (.new 15, 3) := by decide +kernel
theorem dL_request_66 : decode cL_request 66 = .ok (.dup, 1) := by decide +kernel
theorem dL_request_67 : decode cL_request 67 = .ok (.aload_n 0, 1) := by decide +kernel
theorem dL_request_68 : decode cL_request 68 = .ok (.getfield 71, 3) := by decide +kernel
theorem dL_request_71 : decode cL_request 71 = .ok (.iload_n 1, 1) := by decide +kernel
theorem dL_request_72 : decode cL_request 72 = .ok (.iload_n 2, 1) := by decide +kernel
theorem dL_request_73 : decode cL_request 73 = .ok (.iload_n 3, 1) := by decide +kernel
theorem dL_request_74 : decode cL_request 74 = .ok (.iload 4, 2) := by decide +kernel
theorem dL_request_76 : decode cL_request 76 = .ok (.invokespecial 76, 3) := by decide +kernel
theorem dL_request_79 : decode cL_request 79 = .ok (.astore 5, 2) := by decide +kernel
theorem dL_request_81 : decode cL_request 81 = .ok (.aload_n 0, 1) := by decide +kernel
theorem dL_request_82 : decode cL_request 82 = .ok (.getfield 17, 3) := by decide +kernel
theorem dL_request_85 : decode cL_request 85 = .ok (.aload_n 0, 1) := by decide +kernel
theorem dL_request_86 : decode cL_request 86 = .ok (.getfield 71, 3) := by decide +kernel
theorem dL_request_89 : decode cL_request 89 = .ok (.aload 5, 2) := by decide +kernel
theorem dL_request_91 : decode cL_request 91 = .ok (.aastore, 1) := by decide +kernel
theorem dL_request_92 : decode cL_request 92 = .ok (.aload_n 0, 1) := by decide +kernel
theorem dL_request_93 : decode cL_request 93 = .ok (.dup, 1) := by decide +kernel
theorem dL_request_94 : decode cL_request 94 = .ok (.getfield 71, 3) := by decide +kernel
theorem dL_request_97 : decode cL_request 97 = .ok (.iconst 1, 1) := by decide +kernel
theorem dL_request_98 : decode cL_request 98 = .ok (.iadd, 1) := by decide +kernel
theorem dL_request_99 : decode cL_request 99 = .ok (.putfield 71, 3) := by decide +kernel
theorem dL_request_102 : decode cL_request 102 = .ok (.aload_n 0, 1) := by decide +kernel
theorem dL_request_103 : decode cL_request 103 = .ok (.aload 5, 2) := by decide +kernel
theorem dL_request_105 : decode cL_request 105 = .ok (.iconst 0, 1) := by decide +kernel
theorem dL_request_106 : decode cL_request 106 = .ok (.iconst 1, 1) := by decide +kernel
theorem dL_request_107 : decode cL_request 107 = .ok (.iload 4, 2) := by decide +kernel
theorem dL_request_109 : decode cL_request 109 = .ok (.invokevirtual 81, 3) := by decide +kernel
theorem dL_request_112 : decode cL_request 112 = .ok (.pop, 1) := by decide +kernel
theorem dL_request_113 : decode cL_request 113 = .ok (.aload 5, 2) := by decide +kernel
theorem dL_request_115 : decode cL_request 115 = .ok (.getfield 85, 3) := by decide +kernel
theorem dL_request_118 : decode cL_request 118 = .ok (.ireturn, 1) := by decide +kernel
theorem dL_act_0 : decode cL_act 0 = .ok (.aload_n 0, 1) := by decide +kernel
theorem dL_act_1 : decode cL_act 1 = .ok (.iload_n 2, 1) := by decide +kernel
theorem dL_act_2 : decode cL_act 2 = .ok (.invokevirtual 88, 3) := by decide +kernel
theorem dL_act_5 : decode cL_act 5 = .ok (.astore 5, 2) := by decide +kernel
theorem dL_act_7 : decode cL_act 7 = .ok (.aload 5, 2) := by decide +kernel
theorem dL_act_9 : decode cL_act 9 = .ok (.ifnull 13, 3) := by decide +kernel
theorem dL_act_12 : decode cL_act 12 = .ok (.iload_n 3, 1) := by decide +kernel
theorem dL_act_13 : decode cL_act 13 = .ok (.ifCond .lt 9, 3) := by decide +kernel
theorem dL_act_16 : decode cL_act 16 = .ok (.iload_n 3, 1) := by decide +kernel
theorem dL_act_17 : decode cL_act 17 = .ok (.bipush 14, 2) := by decide +kernel
theorem dL_act_19 : decode cL_act 19 = .ok (.if_icmp .le 13, 3) := by decide +kernel
theorem dL_act_22 : decode cL_act 22 = .ok (.new 50, 3) := by decide +kernel
theorem dL_act_25 : decode cL_act 25 = .ok (.dup, 1) := by decide +kernel
theorem dL_act_26 : decode cL_act 26 = .ok (.ldc 94, 2) := by decide +kernel
theorem dL_act_28 : decode cL_act 28 = .ok (.invokespecial 54, 3) := by decide +kernel
theorem dL_act_31 : decode cL_act 31 = .ok (.athrow, 1) := by decide +kernel
theorem dL_act_32 : decode cL_act 32 = .ok (.iload_n 3, 1) := by decide +kernel
theorem dL_act_33 : decode cL_act 33 = .ok (.bipush 6, 2) := by decide +kernel
theorem dL_act_35 : decode cL_act 35 = .ok (.if_icmp .gt 51, 3) := by decide +kernel
theorem dL_act_38 : decode cL_act 38 = .ok (.iload_n 1, 1) := by decide +kernel
theorem dL_act_39 : decode cL_act 39 = .ok (.aload 5, 2) := by decide +kernel
theorem dL_act_41 : decode cL_act 41 = .ok (.getfield 96, 3) := by decide +kernel
theorem dL_act_44 : decode cL_act 44 = .ok (.if_icmp .eq 13, 3) := by decide +kernel
theorem dL_act_47 : decode cL_act 47 = .ok (.new 50, 3) := by decide +kernel
theorem dL_act_50 : decode cL_act 50 = .ok (.dup, 1) := by decide +kernel
theorem dL_act_51 : decode cL_act 51 = .ok (.ldc 99, 2) := by decide +kernel
theorem dL_act_53 : decode cL_act 53 = .ok (.invokespecial 54, 3) := by decide +kernel
theorem dL_act_56 : decode cL_act 56 = .ok (.athrow, 1) := by decide +kernel
theorem dL_act_57 : decode cL_act 57 = .ok (.aload_n 0, 1) := by decide +kernel
theorem dL_act_58 : decode cL_act 58 = .ok (.aload 5, 2) := by decide +kernel
theorem dL_act_60 : decode cL_act 60 = .ok (.iload_n 3, 1) := by decide +kernel
theorem dL_act_61 : decode cL_act 61 = .ok (.invokevirtual 101, 3) := by decide +kernel
theorem dL_act_64 : decode cL_act 64 = .ok (.ifCond .ne 13, 3) := by decide +kernel
theorem dL_act_67 : decode cL_act 67 = .ok (.new 61, 3) := by decide +kernel
theorem dL_act_70 : decode cL_act 70 = .ok (.dup, 1) := by decide +kernel
theorem dL_act_71 : decode cL_act 71 = .ok (.ldc 105, 2) := by decide +kernel
theorem dL_act_73 : decode cL_act 73 = .ok (.invokespecial 65, 3) := by decide +kernel
theorem dL_act_76 : decode cL_act 76 = .ok (.athrow, 1) := by decide +kernel
theorem dL_act_77 : decode cL_act 77 = .ok (.aload 5, 2) := by decide +kernel
theorem dL_act_79 : decode cL_act 79 = .ok (.getfield 107, 3) := by decide +kernel
theorem dL_act_82 : decode cL_act 82 = .ok (.getfield 111, 3) := by decide +kernel
theorem dL_act_85 : decode cL_act 85 = .ok (.ireturn, 1) := by decide +kernel
theorem dL_act_86 : decode cL_act 86 = .ok (.aload 5, 2) := by decide +kernel
theorem dL_act_88 : decode cL_act 88 = .ok (.iload_n 1, 1) := by decide +kernel
theorem dL_act_89 : decode cL_act 89 = .ok (.invokevirtual 116, 3) := by decide +kernel
theorem dL_act_92 : decode cL_act 92 = .ok (.astore 6, 2) := by decide +kernel
theorem dL_act_94 : decode cL_act 94 = .ok (.aload 6, 2) := by decide +kernel
theorem dL_act_96 : decode cL_act 96 = .ok (.ifnonnull 13, 3) := by decide +kernel
theorem dL_act_99 : decode cL_act 99 = .ok (.new 50, 3) := by decide +kernel
theorem dL_act_102 : decode cL_act 102 = .ok (.dup, 1) := by decide +kernel
theorem dL_act_103 : decode cL_act 103 = .ok (.ldc 120, 2) := by decide +kernel
theorem dL_act_105 : decode cL_act 105 = .ok (.invokespecial 54, 3) := by decide +kernel
theorem dL_act_108 : decode cL_act 108 = .ok (.athrow, 1) := by decide +kernel
theorem dL_act_109 : decode cL_act 109 = .ok (.aload_n 0, 1) := by decide +kernel
theorem dL_act_110 : decode cL_act 110 = .ok (.aload 5, 2) := by decide +kernel
theorem dL_act_112 : decode cL_act 112 = .ok (.aload 6, 2) := by decide +kernel
theorem dL_act_114 : decode cL_act 114 = .ok (.iload_n 3, 1) := by decide +kernel
theorem dL_act_115 : decode cL_act 115 = .ok (.iload 4, 2) := by decide +kernel
theorem dL_act_117 : decode cL_act 117 = .ok (.invokevirtual 122, 3) := by decide +kernel
theorem dL_act_120 : decode cL_act 120 = .ok (.ifCond .ne 13, 3) := by decide +kernel
theorem dL_act_123 : decode cL_act 123 = .ok (.new 61, 3) := by decide +kernel
theorem dL_act_126 : decode cL_act 126 = .ok (.dup, 1) := by decide +kernel
theorem dL_act_127 : decode cL_act 127 = .ok (.ldc 126, 2) := by decide +kernel
theorem dL_act_129 : decode cL_act 129 = .ok (.invokespecial 65, 3) := by decide +kernel
theorem dL_act_132 : decode cL_act 132 = .ok (.athrow, 1) := by decide +kernel
theorem dL_act_133 : decode cL_act 133 = .ok (.aload 6, 2) := by decide +kernel
theorem dL_act_135 : decode cL_act 135 = .ok (.getfield 128, 3) := by decide +kernel
theorem dL_act_138 : decode cL_act 138 = .ok (.getfield 111, 3) := by decide +kernel
theorem dL_act_141 : decode cL_act 141 = .ok (.ireturn, 1) := by decide +kernel
theorem dL_pass_0 : decode cL_pass 0 = .ok (.iload_n 1, 1) := by decide +kernel
theorem dL_pass_1 : decode cL_pass 1 = .ok (.iconst 1, 1) := by decide +kernel
theorem dL_pass_2 : decode cL_pass 2 = .ok (.if_icmp .lt 10, 3) := by decide +kernel
theorem dL_pass_5 : decode cL_pass 5 = .ok (.iload_n 1, 1) := by decide +kernel
theorem dL_pass_6 : decode cL_pass 6 = .ok (.sipush 1000, 3) := by decide +kernel
theorem dL_pass_9 : decode cL_pass 9 = .ok (.if_icmp .le 5, 3) := by decide +kernel
theorem dL_pass_12 : decode cL_pass 12 = .ok (.iconst 0, 1) := by decide +kernel
theorem dL_pass_13 : decode cL_pass 13 = .ok (.ireturn, 1) := by decide +kernel
theorem dL_pass_14 : decode cL_pass 14 = .ok (.aload_n 0, 1) := by decide +kernel
theorem dL_pass_15 : decode cL_pass 15 = .ok (.dup, 1) := by decide +kernel
theorem dL_pass_16 : decode cL_pass 16 = .ok (.getfield 131, 3) := by decide +kernel
theorem dL_pass_19 : decode cL_pass 19 = .ok (.iload_n 1, 1) := by decide +kernel
theorem dL_pass_20 : decode cL_pass 20 = .ok (.iadd, 1) := by decide +kernel
theorem dL_pass_21 : decode cL_pass 21 = .ok (.putfield 131, 3) := by decide +kernel
theorem dL_pass_24 : decode cL_pass 24 = .ok (.iconst 1, 1) := by decide +kernel
theorem dL_pass_25 : decode cL_pass 25 = .ok (.ireturn, 1) := by decide +kernel
theorem dL_resend_0 : decode cL_resend 0 = .ok (.aload_n 0, 1) := by decide +kernel
theorem dL_resend_1 : decode cL_resend 1 = .ok (.iload_n 2, 1) := by decide +kernel
theorem dL_resend_2 : decode cL_resend 2 = .ok (.invokevirtual 88, 3) := by decide +kernel
theorem dL_resend_5 : decode cL_resend 5 = .ok (.iload_n 1, 1) := by decide +kernel
theorem dL_resend_6 : decode cL_resend 6 = .ok (.invokestatic 134, 3) := by decide +kernel
theorem dL_resend_9 : decode cL_resend 9 = .ok (.astore_n 3, 1) := by decide +kernel
theorem dL_resend_10 : decode cL_resend 10 = .ok (.aload_n 3, 1) := by decide +kernel
theorem dL_resend_11 : decode cL_resend 11 = .ok (.ifnonnull 13, 3) := by decide +kernel
theorem dL_resend_14 : decode cL_resend 14 = .ok (.new 50, 3) := by decide +kernel
theorem dL_resend_17 : decode cL_resend 17 = .ok (.dup, 1) := by decide +kernel
theorem dL_resend_18 : decode cL_resend 18 = .ok (.ldc 138, 2) := by decide +kernel
theorem dL_resend_20 : decode cL_resend 20 = .ok (.invokespecial 54, 3) := by decide +kernel
theorem dL_resend_23 : decode cL_resend 23 = .ok (.athrow, 1) := by decide +kernel
theorem dL_resend_24 : decode cL_resend 24 = .ok (.aload_n 3, 1) := by decide +kernel
theorem dL_resend_25 : decode cL_resend 25 = .ok (.getfield 140, 3) := by decide +kernel
theorem dL_resend_28 : decode cL_resend 28 = .ok (.istore 4, 2) := by decide +kernel
theorem dL_resend_30 : decode cL_resend 30 = .ok (.aload_n 3, 1) := by decide +kernel
theorem dL_resend_31 : decode cL_resend 31 = .ok (.getfield 145, 3) := by decide +kernel
theorem dL_resend_34 : decode cL_resend 34 = .ok (.invokevirtual 149, 3) := by decide +kernel
theorem dL_resend_37 : decode cL_resend 37 = .ok (.istore 5, 2) := by decide +kernel
theorem dL_resend_39 : decode cL_resend 39 = .ok (.iload 4, 2) := by decide +kernel
theorem dL_resend_41 : decode cL_resend 41 = .ok (.istore 6, 2) := by decide +kernel
theorem dL_resend_43 : decode cL_resend 43 = .ok (.iload 6, 2) := by decide +kernel
theorem dL_resend_45 : decode cL_resend 45 = .ok (.iload 5, 2) := by decide +kernel
theorem dL_resend_47 : decode cL_resend 47 = .ok (.if_icmp .ge 29, 3) := by decide +kernel
theorem dL_resend_50 : decode cL_resend 50 = .ok (.aload_n 0, 1) := by decide +kernel
theorem dL_resend_51 : decode cL_resend 51 = .ok (.getfield 28, 3) := by decide +kernel
theorem dL_resend_54 : decode cL_resend 54 = .ok (.aload_n 3, 1) := by decide +kernel
theorem dL_resend_55 : decode cL_resend 55 = .ok (.aload_n 3, 1) := by decide +kernel
theorem dL_resend_56 : decode cL_resend 56 = .ok (.getfield 145, 3) := by decide +kernel
theorem dL_resend_59 : decode cL_resend 59 = .ok (.iload 6, 2) := by decide +kernel
theorem dL_resend_61 : decode cL_resend 61 = .ok (.invokevirtual 155, 3) := by decide +kernel
theorem dL_resend_64 : decode cL_resend 64 = .ok (.checkcast 32, 3) := by decide +kernel
theorem dL_resend_67 : decode cL_resend 67 = .ok (.invokevirtual 159, 3) := by decide +kernel
theorem dL_resend_70 : decode cL_resend 70 = .ok (.iinc 6 1, 3) := by decide +kernel
theorem dL_resend_73 : decode cL_resend 73 = .ok (.goto (-30), 3) := by decide +kernel
theorem dL_resend_76 : decode cL_resend 76 = .ok (.aload_n 0, 1) := by decide +kernel
theorem dL_resend_77 : decode cL_resend 77 = .ok (.getfield 28, 3) := by decide +kernel
theorem dL_resend_80 : decode cL_resend 80 = .ok (.aload_n 3, 1) := by decide +kernel
theorem dL_resend_81 : decode cL_resend 81 = .ok (.aload_n 0, 1) := by decide +kernel
theorem dL_resend_82 : decode cL_resend 82 = .ok (.getfield 39, 3) := by decide +kernel
theorem dL_resend_85 : decode cL_resend 85 = .ok (.invokevirtual 159, 3) := by decide +kernel
theorem dL_resend_88 : decode cL_resend 88 = .ok (.iload 5, 2) := by decide +kernel
theorem dL_resend_90 : decode cL_resend 90 = .ok (.iload 4, 2) := by decide +kernel
theorem dL_resend_92 : decode cL_resend 92 = .ok (.isub, 1) := by decide +kernel
theorem dL_resend_93 : decode cL_resend 93 = .ok (.iconst 1, 1) := by decide +kernel
theorem dL_resend_94 : decode cL_resend 94 = .ok (.iadd, 1) := by decide +kernel
theorem dL_resend_95 : decode cL_resend 95 = .ok (.ireturn, 1) := by decide +kernel
theorem dL_letters_0 : decode cL_letters 0 = .ok (.aload_n 0, 1) := by decide +kernel
theorem dL_letters_1 : decode cL_letters 1 = .ok (.getfield 28, 3) := by decide +kernel
theorem dL_letters_4 : decode cL_letters 4 = .ok (.getfield 163, 3) := by decide +kernel
theorem dL_letters_7 : decode cL_letters 7 = .ok (.ireturn, 1) := by decide +kernel
theorem dL_carry_0 : decode cL_carry 0 = .ok (.aload_n 0, 1) := by decide +kernel
theorem dL_carry_1 : decode cL_carry 1 = .ok (.aload_n 0, 1) := by decide +kernel
theorem dL_carry_2 : decode cL_carry 2 = .ok (.getfield 28, 3) := by decide +kernel
theorem dL_carry_5 : decode cL_carry 5 = .ok (.iload_n 1, 1) := by decide +kernel
theorem dL_carry_6 : decode cL_carry 6 = .ok (.iconst 0, 1) := by decide +kernel
theorem dL_carry_7 : decode cL_carry 7 = .ok (.invokevirtual 165, 3) := by decide +kernel
theorem dL_carry_10 : decode cL_carry 10 = .ok (.invokevirtual 88, 3) := by decide +kernel
theorem dL_carry_13 : decode cL_carry 13 = .ok (.astore_n 2, 1) := by decide +kernel
theorem dL_carry_14 : decode cL_carry 14 = .ok (.aload_n 2, 1) := by decide +kernel
theorem dL_carry_15 : decode cL_carry 15 = .ok (.ifnonnull 5, 3) := by decide +kernel
theorem dL_carry_18 : decode cL_carry 18 = .ok (.iconst (-1), 1) := by decide +kernel
theorem dL_carry_19 : decode cL_carry 19 = .ok (.ireturn, 1) := by decide +kernel
theorem dL_carry_20 : decode cL_carry 20 = .ok (.aload_n 0, 1) := by decide +kernel
theorem dL_carry_21 : decode cL_carry 21 = .ok (.getfield 28, 3) := by decide +kernel
theorem dL_carry_24 : decode cL_carry 24 = .ok (.iload_n 1, 1) := by decide +kernel
theorem dL_carry_25 : decode cL_carry 25 = .ok (.iconst 2, 1) := by decide +kernel
theorem dL_carry_26 : decode cL_carry 26 = .ok (.invokevirtual 165, 3) := by decide +kernel
theorem dL_carry_29 : decode cL_carry 29 = .ok (.aload_n 2, 1) := by decide +kernel
theorem dL_carry_30 : decode cL_carry 30 = .ok (.getfield 96, 3) := by decide +kernel
theorem dL_carry_33 : decode cL_carry 33 = .ok (.if_icmp .ne 7, 3) := by decide +kernel
theorem dL_carry_36 : decode cL_carry 36 = .ok (.iconst 1, 1) := by decide +kernel
theorem dL_carry_37 : decode cL_carry 37 = .ok (.goto 4, 3) := by decide +kernel
theorem dL_carry_40 : decode cL_carry 40 = .ok (.iconst 0, 1) := by decide +kernel
theorem dL_carry_41 : decode cL_carry 41 = .ok (.istore_n 3, 1) := by decide +kernel
theorem dL_carry_42 : decode cL_carry 42 = .ok (.aload_n 2, 1) := by decide +kernel
theorem dL_carry_43 : decode cL_carry 43 = .ok (.aload_n 0, 1) := by decide +kernel
theorem dL_carry_44 : decode cL_carry 44 = .ok (.getfield 28, 3) := by decide +kernel
theorem dL_carry_47 : decode cL_carry 47 = .ok (.iload_n 1, 1) := by decide +kernel
theorem dL_carry_48 : decode cL_carry 48 = .ok (.iload_n 3, 1) := by decide +kernel
theorem dL_carry_49 : decode cL_carry 49 = .ok (.ifCond .eq 7, 3) := by decide +kernel
theorem dL_carry_52 : decode cL_carry 52 = .ok (.iconst 1, 1) := by decide +kernel
theorem dL_carry_53 : decode cL_carry 53 = .ok (.goto 4, 3) := by decide +kernel
theorem dL_carry_56 : decode cL_carry 56 = .ok (.iconst 2, 1) := by decide +kernel
theorem dL_carry_57 : decode cL_carry 57 = .ok (.invokevirtual 165, 3) := by decide +kernel
theorem dL_carry_60 : decode cL_carry 60 = .ok (.invokevirtual 116, 3) := by decide +kernel
theorem dL_carry_63 : decode cL_carry 63 = .ok (.astore 4, 2) := by decide +kernel
theorem dL_carry_65 : decode cL_carry 65 = .ok (.aload 4, 2) := by decide +kernel
theorem dL_carry_67 : decode cL_carry 67 = .ok (.ifnonnull 5, 3) := by decide +kernel
theorem dL_carry_70 : decode cL_carry 70 = .ok (.iconst (-1), 1) := by decide +kernel
theorem dL_carry_71 : decode cL_carry 71 = .ok (.ireturn, 1) := by decide +kernel
theorem dL_carry_72 : decode cL_carry 72 = .ok (.iload_n 3, 1) := by decide +kernel
theorem dL_carry_73 : decode cL_carry 73 = .ok (.ifCond .eq 11, 3) := by decide +kernel
theorem dL_carry_76 : decode cL_carry 76 = .ok (.aload 4, 2) := by decide +kernel
theorem dL_carry_78 : decode cL_carry 78 = .ok (.getfield 169, 3) := by decide +kernel
