theorem dX3_callsThatAre_0 : decode cX3_callsThatAre 0 = .ok (.iconst 0, 1) := by decide +kernel
theorem dX3_callsThatAre_1 : decode cX3_callsThatAre 1 = .ok (.istore_n 2, 1) := by decide +kernel
theorem dX3_callsThatAre_2 : decode cX3_callsThatAre 2 = .ok (.iconst 0, 1) := by decide +kernel
theorem dX3_callsThatAre_3 : decode cX3_callsThatAre 3 = .ok (.istore_n 3, 1) := by decide +kernel
theorem dX3_callsThatAre_4 : decode cX3_callsThatAre 4 = .ok (.iload_n 3, 1) := by decide +kernel
theorem dX3_callsThatAre_5 : decode cX3_callsThatAre 5 = .ok (.aload_n 0, 1) := by decide +kernel
theorem dX3_callsThatAre_6 : decode cX3_callsThatAre 6 = .ok (.getfield 16, 3) := by decide +kernel
theorem dX3_callsThatAre_9 : decode cX3_callsThatAre 9 = .ok (.invokevirtual 43, 3) := by decide +kernel
theorem dX3_callsThatAre_12 : decode cX3_callsThatAre 12 = .ok (.if_icmp .ge 30, 3) := by decide +kernel
theorem dX3_callsThatAre_15 : decode cX3_callsThatAre 15 = .ok (.aload_n 0, 1) := by decide +kernel
theorem dX3_callsThatAre_16 : decode cX3_callsThatAre 16 = .ok (.getfield 16, 3) := by decide +kernel
theorem dX3_callsThatAre_19 : decode cX3_callsThatAre 19 = .ok (.iload_n 3, 1) := by decide +kernel
theorem dX3_callsThatAre_20 : decode cX3_callsThatAre 20 = .ok (.invokevirtual 151, 3) := by decide +kernel
theorem dX3_callsThatAre_23 : decode cX3_callsThatAre 23 = .ok (.checkcast 93, 3) := by decide +kernel
theorem dX3_callsThatAre_26 : decode cX3_callsThatAre 26 = .ok (.getfield 118, 3) := by decide +kernel
theorem dX3_callsThatAre_29 : decode cX3_callsThatAre 29 = .ok (.iload_n 1, 1) := by decide +kernel
theorem dX3_callsThatAre_30 : decode cX3_callsThatAre 30 = .ok (.if_icmp .ne 6, 3) := by decide +kernel
theorem dX3_callsThatAre_33 : decode cX3_callsThatAre 33 = .ok (.iinc 2 1, 3) := by decide +kernel
theorem dX3_callsThatAre_36 : decode cX3_callsThatAre 36 = .ok (.iinc 3 1, 3) := by decide +kernel
theorem dX3_callsThatAre_39 : decode cX3_callsThatAre 39 = .ok (.goto (-35), 3) := by decide +kernel
theorem dX3_callsThatAre_42 : decode cX3_callsThatAre 42 = .ok (.iload_n 2, 1) := by decide +kernel
theorem dX3_callsThatAre_43 : decode cX3_callsThatAre 43 = .ok (.ireturn, 1) := by decide +kernel
theorem dX3_askingsSoFar_0 : decode cX3_askingsSoFar 0 = .ok (.iconst 0, 1) := by decide +kernel
theorem dX3_askingsSoFar_1 : decode cX3_askingsSoFar 1 = .ok (.istore_n 1, 1) := by decide +kernel
theorem dX3_askingsSoFar_2 : decode cX3_askingsSoFar 2 = .ok (.iconst 0, 1) := by decide +kernel
theorem dX3_askingsSoFar_3 : decode cX3_askingsSoFar 3 = .ok (.istore_n 2, 1) := by decide +kernel
theorem dX3_askingsSoFar_4 : decode cX3_askingsSoFar 4 = .ok (.iload_n 2, 1) := by decide +kernel
theorem dX3_askingsSoFar_5 : decode cX3_askingsSoFar 5 = .ok (.aload_n 0, 1) := by decide +kernel
theorem dX3_askingsSoFar_6 : decode cX3_askingsSoFar 6 = .ok (.getfield 10, 3) := by decide +kernel
theorem dX3_askingsSoFar_9 : decode cX3_askingsSoFar 9 = .ok (.invokevirtual 43, 3) := by decide +kernel
theorem dX3_askingsSoFar_12 : decode cX3_askingsSoFar 12 = .ok (.if_icmp .ge 26, 3) := by decide +kernel
theorem dX3_askingsSoFar_15 : decode cX3_askingsSoFar 15 = .ok (.iload_n 1, 1) := by decide +kernel
theorem dX3_askingsSoFar_16 : decode cX3_askingsSoFar 16 = .ok (.aload_n 0, 1) := by decide +kernel
theorem dX3_askingsSoFar_17 : decode cX3_askingsSoFar 17 = .ok (.getfield 10, 3) := by decide +kernel
theorem dX3_askingsSoFar_20 : decode cX3_askingsSoFar 20 = .ok (.iload_n 2, 1) := by decide +kernel
theorem dX3_askingsSoFar_21 : decode cX3_askingsSoFar 21 = .ok (.invokevirtual 151, 3) := by decide +kernel
theorem dX3_askingsSoFar_24 : decode cX3_askingsSoFar 24 = .ok (.checkcast 47, 3) := by decide +kernel
theorem dX3_askingsSoFar_27 : decode cX3_askingsSoFar 27 = .ok (.getfield 158, 3) := by decide +kernel
theorem dX3_askingsSoFar_30 : decode cX3_askingsSoFar 30 = .ok (.iadd, 1) := by decide +kernel
theorem dX3_askingsSoFar_31 : decode cX3_askingsSoFar 31 = .ok (.istore_n 1, 1) := by decide +kernel
theorem dX3_askingsSoFar_32 : decode cX3_askingsSoFar 32 = .ok (.iinc 2 1, 3) := by decide +kernel
theorem dX3_askingsSoFar_35 : decode cX3_askingsSoFar 35 = .ok (.goto (-31), 3) := by decide +kernel
theorem dX3_askingsSoFar_38 : decode cX3_askingsSoFar 38 = .ok (.iload_n 1, 1) := by decide +kernel
theorem dX3_askingsSoFar_39 : decode cX3_askingsSoFar 39 = .ok (.ireturn, 1) := by decide +kernel
theorem dX3_openAskings_0 : decode cX3_openAskings 0 = .ok (.iconst 0, 1) := by decide +kernel
theorem dX3_openAskings_1 : decode cX3_openAskings 1 = .ok (.istore_n 1, 1) := by decide +kernel
theorem dX3_openAskings_2 : decode cX3_openAskings 2 = .ok (.iconst 0, 1) := by decide +kernel
theorem dX3_openAskings_3 : decode cX3_openAskings 3 = .ok (.istore_n 2, 1) := by decide +kernel
theorem dX3_openAskings_4 : decode cX3_openAskings 4 = .ok (.iload_n 2, 1) := by decide +kernel
theorem dX3_openAskings_5 : decode cX3_openAskings 5 = .ok (.aload_n 0, 1) := by decide +kernel
theorem dX3_openAskings_6 : decode cX3_openAskings 6 = .ok (.getfield 10, 3) := by decide +kernel
theorem dX3_openAskings_9 : decode cX3_openAskings 9 = .ok (.invokevirtual 43, 3) := by decide +kernel
theorem dX3_openAskings_12 : decode cX3_openAskings 12 = .ok (.if_icmp .ge 26, 3) := by decide +kernel
theorem dX3_openAskings_15 : decode cX3_openAskings 15 = .ok (.iload_n 1, 1) := by decide +kernel
theorem dX3_openAskings_16 : decode cX3_openAskings 16 = .ok (.aload_n 0, 1) := by decide +kernel
theorem dX3_openAskings_17 : decode cX3_openAskings 17 = .ok (.getfield 10, 3) := by decide +kernel
theorem dX3_openAskings_20 : decode cX3_openAskings 20 = .ok (.iload_n 2, 1) := by decide +kernel
theorem dX3_openAskings_21 : decode cX3_openAskings 21 = .ok (.invokevirtual 151, 3) := by decide +kernel
theorem dX3_openAskings_24 : decode cX3_openAskings 24 = .ok (.checkcast 47, 3) := by decide +kernel
theorem dX3_openAskings_27 : decode cX3_openAskings 27 = .ok (.getfield 80, 3) := by decide +kernel
theorem dX3_openAskings_30 : decode cX3_openAskings 30 = .ok (.iadd, 1) := by decide +kernel
theorem dX3_openAskings_31 : decode cX3_openAskings 31 = .ok (.istore_n 1, 1) := by decide +kernel
theorem dX3_openAskings_32 : decode cX3_openAskings 32 = .ok (.iinc 2 1, 3) := by decide +kernel
theorem dX3_openAskings_35 : decode cX3_openAskings 35 = .ok (.goto (-31), 3) := by decide +kernel
theorem dX3_openAskings_38 : decode cX3_openAskings 38 = .ok (.iload_n 1, 1) := by decide +kernel
theorem dX3_openAskings_39 : decode cX3_openAskings 39 = .ok (.ireturn, 1) := by decide +kernel
theorem dX3_chosen_0 : decode cX3_chosen 0 = .ok (.aload_n 0, 1) := by decide +kernel
theorem dX3_chosen_1 : decode cX3_chosen 1 = .ok (.getfield 29, 3) := by decide +kernel
theorem dX3_chosen_4 : decode cX3_chosen 4 = .ok (.ifCond .ne 9, 3) := by decide +kernel
theorem dX3_chosen_7 : decode cX3_chosen 7 = .ok (.aload_n 0, 1) := by decide +kernel
theorem dX3_chosen_8 : decode cX3_chosen 8 = .ok (.iload_n 2, 1) := by decide +kernel
theorem dX3_chosen_9 : decode cX3_chosen 9 = .ok (.invokevirtual 173, 3) := by decide +kernel
theorem dX3_chosen_12 : decode cX3_chosen 12 = .ok (.areturn, 1) := by decide +kernel
theorem dX3_chosen_13 : decode cX3_chosen 13 = .ok (.aload_n 0, 1) := by decide +kernel
theorem dX3_chosen_14 : decode cX3_chosen 14 = .ok (.getfield 29, 3) := by decide +kernel
theorem dX3_chosen_17 : decode cX3_chosen 17 = .ok (.iconst 2, 1) := by decide +kernel
theorem dX3_chosen_18 : decode cX3_chosen 18 = .ok (.if_icmp .ne 10, 3) := by decide +kernel
theorem dX3_chosen_21 : decode cX3_chosen 21 = .ok (.aload_n 0, 1) := by decide +kernel
theorem dX3_chosen_22 : decode cX3_chosen 22 = .ok (.iload_n 1, 1) := by decide +kernel
theorem dX3_chosen_23 : decode cX3_chosen 23 = .ok (.iload_n 2, 1) := by decide +kernel
theorem dX3_chosen_24 : decode cX3_chosen 24 = .ok (.invokevirtual 176, 3) := by decide +kernel
theorem dX3_chosen_27 : decode cX3_chosen 27 = .ok (.areturn, 1) := by decide +kernel
theorem dX3_chosen_28 : decode cX3_chosen 28 = .ok (.aload_n 0, 1) := by decide +kernel
theorem dX3_chosen_29 : decode cX3_chosen 29 = .ok (.getfield 29, 3) := by decide +kernel
theorem dX3_chosen_32 : decode cX3_chosen 32 = .ok (.iconst 3, 1) := by decide +kernel
theorem dX3_chosen_33 : decode cX3_chosen 33 = .ok (.if_icmp .ne 14, 3) := by decide +kernel
theorem dX3_chosen_36 : decode cX3_chosen 36 = .ok (.aload_n 0, 1) := by decide +kernel
theorem dX3_chosen_37 : decode cX3_chosen 37 = .ok (.iload_n 2, 1) := by decide +kernel
theorem dX3_chosen_38 : decode cX3_chosen 38 = .ok (.iload_n 1, 1) := by decide +kernel
theorem dX3_chosen_39 : decode cX3_chosen 39 = .ok (.iconst 4, 1) := by decide +kernel
theorem dX3_chosen_40 : decode cX3_chosen 40 = .ok (.irem, 1) := by decide +kernel
theorem dX3_chosen_41 : decode cX3_chosen 41 = .ok (.invokevirtual 179, 3) := by decide +kernel
theorem dX3_chosen_44 : decode cX3_chosen 44 = .ok (.goto 4, 3) := by decide +kernel
theorem dX3_chosen_47 : decode cX3_chosen 47 = .ok (.aconst_null, 1) := by decide +kernel
theorem dX3_chosen_48 : decode cX3_chosen 48 = .ok (.astore_n 3, 1) := by decide +kernel
theorem dX3_chosen_49 : decode cX3_chosen 49 = .ok (.aload_n 3, 1) := by decide +kernel
theorem dX3_chosen_50 : decode cX3_chosen 50 = .ok (.ifnull 7, 3) := by decide +kernel
theorem dX3_chosen_53 : decode cX3_chosen 53 = .ok (.aload_n 3, 1) := by decide +kernel
theorem dX3_chosen_54 : decode cX3_chosen 54 = .ok (.goto 9, 3) := by decide +kernel
theorem dX3_chosen_57 : decode cX3_chosen 57 = .ok (.aload_n 0, 1) := by decide +kernel
theorem dX3_chosen_58 : decode cX3_chosen 58 = .ok (.iload_n 2, 1) := by decide +kernel
theorem dX3_chosen_59 : decode cX3_chosen 59 = .ok (.iconst (-1), 1) := by decide +kernel
theorem dX3_chosen_60 : decode cX3_chosen 60 = .ok (.invokevirtual 179, 3) := by decide +kernel
theorem dX3_chosen_63 : decode cX3_chosen 63 = .ok (.areturn, 1) := by decide +kernel
theorem dX3_byTurn_0 : decode cX3_byTurn 0 = .ok (.aconst_null, 1) := by decide +kernel
theorem dX3_byTurn_1 : decode cX3_byTurn 1 = .ok (.astore_n 2, 1) := by decide +kernel
theorem dX3_byTurn_2 : decode cX3_byTurn 2 = .ok (.iconst 0, 1) := by decide +kernel
theorem dX3_byTurn_3 : decode cX3_byTurn 3 = .ok (.istore_n 3, 1) := by decide +kernel
theorem dX3_byTurn_4 : decode cX3_byTurn 4 = .ok (.iload_n 3, 1) := by decide +kernel
theorem dX3_byTurn_5 : decode cX3_byTurn 5 = .ok (.aload_n 0, 1) := by decide +kernel
theorem dX3_byTurn_6 : decode cX3_byTurn 6 = .ok (.getfield 10, 3) := by decide +kernel
theorem dX3_byTurn_9 : decode cX3_byTurn 9 = .ok (.invokevirtual 43, 3) := by decide +kernel
theorem dX3_byTurn_12 : decode cX3_byTurn 12 = .ok (.if_icmp .ge 61, 3) := by decide +kernel
theorem dX3_byTurn_15 : decode cX3_byTurn 15 = .ok (.aload_n 0, 1) := by decide +kernel
theorem dX3_byTurn_16 : decode cX3_byTurn 16 = .ok (.getfield 10, 3) := by decide +kernel
theorem dX3_byTurn_19 : decode cX3_byTurn 19 = .ok (.iload_n 3, 1) := by decide +kernel
theorem dX3_byTurn_20 : decode cX3_byTurn 20 = .ok (.invokevirtual 151, 3) := by decide +kernel
theorem dX3_byTurn_23 : decode cX3_byTurn 23 = .ok (.checkcast 47, 3) := by decide +kernel
theorem dX3_byTurn_26 : decode cX3_byTurn 26 = .ok (.astore 4, 2) := by decide +kernel
theorem dX3_byTurn_28 : decode cX3_byTurn 28 = .ok (.aload 4, 2) := by decide +kernel
theorem dX3_byTurn_30 : decode cX3_byTurn 30 = .ok (.iload_n 1, 1) := by decide +kernel
theorem dX3_byTurn_31 : decode cX3_byTurn 31 = .ok (.invokevirtual 182, 3) := by decide +kernel
theorem dX3_byTurn_34 : decode cX3_byTurn 34 = .ok (.ifCond .eq 33, 3) := by decide +kernel
theorem dX3_byTurn_37 : decode cX3_byTurn 37 = .ok (.aload_n 2, 1) := by decide +kernel
theorem dX3_byTurn_38 : decode cX3_byTurn 38 = .ok (.ifnull 26, 3) := by decide +kernel
theorem dX3_byTurn_41 : decode cX3_byTurn 41 = .ok (.aload 4, 2) := by decide +kernel
theorem dX3_byTurn_43 : decode cX3_byTurn 43 = .ok (.getfield 186, 3) := by decide +kernel
theorem dX3_byTurn_46 : decode cX3_byTurn 46 = .ok (.aload 4, 2) := by decide +kernel
theorem dX3_byTurn_48 : decode cX3_byTurn 48 = .ok (.getfield 189, 3) := by decide +kernel
theorem dX3_byTurn_51 : decode cX3_byTurn 51 = .ok (.iadd, 1) := by decide +kernel
theorem dX3_byTurn_52 : decode cX3_byTurn 52 = .ok (.aload_n 2, 1) := by decide +kernel
theorem dX3_byTurn_53 : decode cX3_byTurn 53 = .ok (.getfield 186, 3) := by decide +kernel
theorem dX3_byTurn_56 : decode cX3_byTurn 56 = .ok (.aload_n 2, 1) := by decide +kernel
theorem dX3_byTurn_57 : decode cX3_byTurn 57 = .ok (.getfield 189, 3) := by decide +kernel
theorem dX3_byTurn_60 : decode cX3_byTurn 60 = .ok (.iadd, 1) := by decide +kernel
theorem dX3_byTurn_61 : decode cX3_byTurn 61 = .ok (.if_icmp .le 6, 3) := by decide +kernel
theorem dX3_byTurn_64 : decode cX3_byTurn 64 = .ok (.aload 4, 2) := by decide +kernel
theorem dX3_byTurn_66 : decode cX3_byTurn 66 = .ok (.astore_n 2, 1) := by decide +kernel
theorem dX3_byTurn_67 : decode cX3_byTurn 67 = .ok (.iinc 3 1, 3) := by decide +kernel
theorem dX3_byTurn_70 : decode cX3_byTurn 70 = .ok (.goto (-66), 3) := by decide +kernel
theorem dX3_byTurn_73 : decode cX3_byTurn 73 = .ok (.aload_n 2, 1) := by decide +kernel
theorem dX3_byTurn_74 : decode cX3_byTurn 74 = .ok (.areturn, 1) := by decide +kernel
theorem dX3_byFewest_0 : decode cX3_byFewest 0 = .ok (.aconst_null, 1) := by decide +kernel
theorem dX3_byFewest_1 : decode cX3_byFewest 1 = .ok (.astore_n 3, 1) := by decide +kernel
theorem dX3_byFewest_2 : decode cX3_byFewest 2 = .ok (.iconst 0, 1) := by decide +kernel
theorem dX3_byFewest_3 : decode cX3_byFewest 3 = .ok (.istore 4, 2) := by decide +kernel
theorem dX3_byFewest_5 : decode cX3_byFewest 5 = .ok (.iload 4, 2) := by decide +kernel
theorem dX3_byFewest_7 : decode cX3_byFewest 7 = .ok (.aload_n 0, 1) := by decide +kernel
theorem dX3_byFewest_8 : decode cX3_byFewest 8 = .ok (.getfield 10, 3) := by decide +kernel
theorem dX3_byFewest_11 : decode cX3_byFewest 11 = .ok (.invokevirtual 43, 3) := by decide +kernel
theorem dX3_byFewest_14 : decode cX3_byFewest 14 = .ok (.if_icmp .ge 88, 3) := by decide +kernel
theorem dX3_byFewest_17 : decode cX3_byFewest 17 = .ok (.aload_n 0, 1) := by decide +kernel
theorem dX3_byFewest_18 : decode cX3_byFewest 18 = .ok (.getfield 10, 3) := by decide +kernel
theorem dX3_byFewest_21 : decode cX3_byFewest 21 = .ok (.iload 4, 2) := by decide +kernel
theorem dX3_byFewest_23 : decode cX3_byFewest 23 = .ok (.invokevirtual 151, 3) := by decide +kernel
theorem dX3_byFewest_26 : decode cX3_byFewest 26 = .ok (.checkcast 47, 3) := by decide +kernel
theorem dX3_byFewest_29 : decode cX3_byFewest 29 = .ok (.astore 5, 2) := by decide +kernel
theorem dX3_byFewest_31 : decode cX3_byFewest 31 = .ok (.iload_n 2, 1) := by decide +kernel
theorem dX3_byFewest_32 : decode cX3_byFewest 32 = .ok (.iconst (-1), 1) := by decide +kernel
theorem dX3_byFewest_33 : decode cX3_byFewest 33 = .ok (.if_icmp .eq 12, 3) := by decide +kernel
theorem dX3_byFewest_36 : decode cX3_byFewest 36 = .ok (.aload 5, 2) := by decide +kernel
theorem dX3_byFewest_38 : decode cX3_byFewest 38 = .ok (.getfield 192, 3) := by decide +kernel
theorem dX3_byFewest_41 : decode cX3_byFewest 41 = .ok (.iload_n 2, 1) := by decide +kernel
theorem dX3_byFewest_42 : decode cX3_byFewest 42 = .ok (.if_icmp .ne 16, 3) := by decide +kernel
theorem dX3_byFewest_45 : decode cX3_byFewest 45 = .ok (.aload 5, 2) := by decide +kernel
theorem dX3_byFewest_47 : decode cX3_byFewest 47 = .ok (.iload_n 1, 1) := by decide +kernel
theorem dX3_byFewest_48 : decode cX3_byFewest 48 = .ok (.invokevirtual 182, 3) := by decide +kernel
theorem dX3_byFewest_51 : decode cX3_byFewest 51 = .ok (.ifCond .eq 7, 3) := by decide +kernel
theorem dX3_byFewest_54 : decode cX3_byFewest 54 = .ok (.iconst 1, 1) := by decide +kernel
theorem dX3_byFewest_55 : decode cX3_byFewest 55 = .ok (.goto 4, 3) := by decide +kernel
theorem dX3_byFewest_58 : decode cX3_byFewest 58 = .ok (.iconst 0, 1) := by decide +kernel
theorem dX3_byFewest_59 : decode cX3_byFewest 59 = .ok (.istore 6, 2) := by decide +kernel
theorem dX3_byFewest_61 : decode cX3_byFewest 61 = .ok (.iload 6, 2) := by decide +kernel
theorem dX3_byFewest_63 : decode cX3_byFewest 63 = .ok (.ifCond .eq 33, 3) := by decide +kernel
theorem dX3_byFewest_66 : decode cX3_byFewest 66 = .ok (.aload_n 3, 1) := by decide +kernel
theorem dX3_byFewest_67 : decode cX3_byFewest 67 = .ok (.ifnull 26, 3) := by decide +kernel
theorem dX3_byFewest_70 : decode cX3_byFewest 70 = .ok (.aload 5, 2) := by decide +kernel
theorem dX3_byFewest_72 : decode cX3_byFewest 72 = .ok (.getfield 80, 3) := by decide +kernel
theorem dX3_byFewest_75 : decode cX3_byFewest 75 = .ok (.aload_n 3, 1) := by decide +kernel
theorem dX3_byFewest_76 : decode cX3_byFewest 76 = .ok (.getfield 189, 3) := by decide +kernel
theorem dX3_byFewest_79 : decode cX3_byFewest 79 = .ok (.imul, 1) := by decide +kernel
theorem dX3_byFewest_80 : decode cX3_byFewest 80 = .ok (.aload_n 3, 1) := by decide +kernel
theorem dX3_byFewest_81 : decode cX3_byFewest 81 = .ok (.getfield 80, 3) := by decide +kernel
theorem dX3_byFewest_84 : decode cX3_byFewest 84 = .ok (.aload 5, 2) := by decide +kernel
theorem dX3_byFewest_86 : decode cX3_byFewest 86 = .ok (.getfield 189, 3) := by decide +kernel
theorem dX3_byFewest_89 : decode cX3_byFewest 89 = .ok (.imul, 1) := by decide +kernel
theorem dX3_byFewest_90 : decode cX3_byFewest 90 = .ok (.if_icmp .ge 6, 3) := by decide +kernel
theorem dX3_byFewest_93 : decode cX3_byFewest 93 = .ok (.aload 5, 2) := by decide +kernel
theorem dX3_byFewest_95 : decode cX3_byFewest 95 = .ok (.astore_n 3, 1) := by decide +kernel
theorem dX3_byFewest_96 : decode cX3_byFewest 96 = .ok (.iinc 4 1, 3) := by decide +kernel
theorem dX3_byFewest_99 : decode cX3_byFewest 99 = .ok (.goto (-94), 3) := by decide +kernel
theorem dX3_byFewest_102 : decode cX3_byFewest 102 = .ok (.aload_n 3, 1) := by decide +kernel
theorem dX3_byFewest_103 : decode cX3_byFewest 103 = .ok (.areturn, 1) := by decide +kernel
theorem dX3_byRing_0 : decode cX3_byRing 0 = .ok (.aconst_null, 1) := by decide +kernel
theorem dX3_byRing_1 : decode cX3_byRing 1 = .ok (.astore_n 3, 1) := by decide +kernel
theorem dX3_byRing_2 : decode cX3_byRing 2 = .ok (.ldc 195, 2) := by decide +kernel
theorem dX3_byRing_4 : decode cX3_byRing 4 = .ok (.istore 4, 2) := by decide +kernel
theorem dX3_byRing_6 : decode cX3_byRing 6 = .ok (.iconst 0, 1) := by decide +kernel
theorem dX3_byRing_7 : decode cX3_byRing 7 = .ok (.istore 5, 2) := by decide +kernel
theorem dX3_byRing_9 : decode cX3_byRing 9 = .ok (.iload 5, 2) := by decide +kernel
theorem dX3_byRing_11 : decode cX3_byRing 11 = .ok (.aload_n 0, 1) := by decide +kernel
theorem dX3_byRing_12 : decode cX3_byRing 12 = .ok (.getfield 10, 3) := by decide +kernel
theorem dX3_byRing_15 : decode cX3_byRing 15 = .ok (.invokevirtual 43, 3) := by decide +kernel
theorem dX3_byRing_18 : decode cX3_byRing 18 = .ok (.if_icmp .ge 54, 3) := by decide +kernel
theorem dX3_byRing_21 : decode cX3_byRing 21 = .ok (.aload_n 0, 1) := by decide +kernel
theorem dX3_byRing_22 : decode cX3_byRing 22 = .ok (.getfield 10, 3) := by decide +kernel
theorem dX3_byRing_25 : decode cX3_byRing 25 = .ok (.iload 5, 2) := by decide +kernel
theorem dX3_byRing_27 : decode cX3_byRing 27 = .ok (.invokevirtual 151, 3) := by decide +kernel
theorem dX3_byRing_30 : decode cX3_byRing 30 = .ok (.checkcast 47, 3) := by decide +kernel
theorem dX3_byRing_33 : decode cX3_byRing 33 = .ok (.astore 6, 2) := by decide +kernel
theorem dX3_byRing_35 : decode cX3_byRing 35 = .ok (.aload 6, 2) := by decide +kernel
theorem dX3_byRing_37 : decode cX3_byRing 37 = .ok (.iload_n 2, 1) := by decide +kernel
theorem dX3_byRing_38 : decode cX3_byRing 38 = .ok (.invokevirtual 182, 3) := by decide +kernel
theorem dX3_byRing_41 : decode cX3_byRing 41 = .ok (.ifCond .eq 25, 3) := by decide +kernel
theorem dX3_byRing_44 : decode cX3_byRing 44 = .ok (.aload 6, 2) := by decide +kernel
theorem dX3_byRing_46 : decode cX3_byRing 46 = .ok (.iload_n 1, 1) := by decide +kernel
theorem dX3_byRing_47 : decode cX3_byRing 47 = .ok (.invokevirtual 196, 3) := by decide +kernel
theorem dX3_byRing_50 : decode cX3_byRing 50 = .ok (.iload 4, 2) := by decide +kernel
theorem dX3_byRing_52 : decode cX3_byRing 52 = .ok (.if_icmp .ge 14, 3) := by decide +kernel
theorem dX3_byRing_55 : decode cX3_byRing 55 = .ok (.aload 6, 2) := by decide +kernel
theorem dX3_byRing_57 : decode cX3_byRing 57 = .ok (.astore_n 3, 1) := by decide +kernel
theorem dX3_byRing_58 : decode cX3_byRing 58 = .ok (.aload 6, 2) := by decide +kernel
theorem dX3_byRing_60 : decode cX3_byRing 60 = .ok (.iload_n 1, 1) := by decide +kernel
theorem dX3_byRing_61 : decode cX3_byRing 61 = .ok (.invokevirtual 196, 3) := by decide +kernel
theorem dX3_byRing_64 : decode cX3_byRing 64 = .ok (.istore 4, 2) := by decide +kernel
theorem dX3_byRing_66 : decode cX3_byRing 66 = .ok (.iinc 5 1, 3) := by decide +kernel
theorem dX3_byRing_69 : decode cX3_byRing 69 = .ok (.goto (-60), 3) := by decide +kernel
theorem dX3_byRing_72 : decode cX3_byRing 72 = .ok (.aload_n 3, 1) := by decide +kernel
theorem dX3_byRing_73 : decode cX3_byRing 73 = .ok (.areturn, 1) := by decide +kernel
theorem dX3_settleCredits_0 : decode cX3_settleCredits 0 = .ok (.iconst 0, 1) := by decide +kernel
theorem dX3_settleCredits_1 : decode cX3_settleCredits 1 = .ok (.istore_n 3, 1) := by decide +kernel
theorem dX3_settleCredits_2 : decode cX3_settleCredits 2 = .ok (.iconst 0, 1) := by decide +kernel
theorem dX3_settleCredits_3 : decode cX3_settleCredits 3 = .ok (.istore 4, 2) := by decide +kernel
theorem dX3_settleCredits_5 : decode cX3_settleCredits 5 = .ok (.iload 4, 2) := by decide +kernel
theorem dX3_settleCredits_7 : decode cX3_settleCredits 7 = .ok (.aload_n 0, 1) := by decide +kernel
theorem dX3_settleCredits_8 : decode cX3_settleCredits 8 = .ok (.getfield 10, 3) := by decide +kernel
theorem dX3_settleCredits_11 : decode cX3_settleCredits 11 = .ok (.invokevirtual 43, 3) := by decide +kernel
theorem dX3_settleCredits_14 : decode cX3_settleCredits 14 = .ok (.if_icmp .ge 55, 3) := by decide +kernel
theorem dX3_settleCredits_17 : decode cX3_settleCredits 17 = .ok (.aload_n 0, 1) := by decide +kernel
theorem dX3_settleCredits_18 : decode cX3_settleCredits 18 = .ok (.getfield 10, 3) := by decide +kernel
theorem dX3_settleCredits_21 : decode cX3_settleCredits 21 = .ok (.iload 4, 2) := by decide +kernel
theorem dX3_settleCredits_23 : decode cX3_settleCredits 23 = .ok (.invokevirtual 151, 3) := by decide +kernel
theorem dX3_settleCredits_26 : decode cX3_settleCredits 26 = .ok (.checkcast 47, 3) := by decide +kernel
theorem dX3_settleCredits_29 : decode cX3_settleCredits 29 = .ok (.astore 5, 2) := by decide +kernel
theorem dX3_settleCredits_31 : decode cX3_settleCredits 31 = .ok (.aload 5, 2) := by decide +kernel
theorem dX3_settleCredits_33 : decode cX3_settleCredits 33 = .ok (.iload_n 1, 1) := by decide +kernel
theorem dX3_settleCredits_34 : decode cX3_settleCredits 34 = .ok (.invokevirtual 182, 3) := by decide +kernel
theorem dX3_settleCredits_37 : decode cX3_settleCredits 37 = .ok (.ifCond .eq 26, 3) := by decide +kernel
theorem dX3_settleCredits_40 : decode cX3_settleCredits 40 = .ok (.aload 5, 2) := by decide +kernel
theorem dX3_settleCredits_42 : decode cX3_settleCredits 42 = .ok (.dup, 1) := by decide +kernel
theorem dX3_settleCredits_43 : decode cX3_settleCredits 43 = .ok (.getfield 186, 3) := by decide +kernel
theorem dX3_settleCredits_46 : decode cX3_settleCredits 46 = .ok (.aload 5, 2) := by decide +kernel
theorem dX3_settleCredits_48 : decode cX3_settleCredits 48 = .ok (.getfield 189, 3) := by decide +kernel
theorem dX3_settleCredits_51 : decode cX3_settleCredits 51 = .ok (.iadd, 1) := by decide +kernel
theorem dX3_settleCredits_52 : decode cX3_settleCredits 52 = .ok (.putfield 186, 3) := by decide +kernel
theorem dX3_settleCredits_55 : decode cX3_settleCredits 55 = .ok (.iload_n 3, 1) := by decide +kernel
theorem dX3_settleCredits_56 : decode cX3_settleCredits 56 = .ok (.aload 5, 2) := by decide +kernel
theorem dX3_settleCredits_58 : decode cX3_settleCredits 58 = .ok (.getfield 189, 3) := by decide +kernel
theorem dX3_settleCredits_61 : decode cX3_settleCredits 61 = .ok (.iadd, 1) := by decide +kernel
theorem dX3_settleCredits_62 : decode cX3_settleCredits 62 = .ok (.istore_n 3, 1) := by decide +kernel
theorem dX3_settleCredits_63 : decode cX3_settleCredits 63 = .ok (.iinc 4 1, 3) := by decide +kernel
theorem dX3_settleCredits_66 : decode cX3_settleCredits 66 = .ok (.goto (-61), 3) := by decide +kernel
theorem dX3_settleCredits_69 : decode cX3_settleCredits 69 = .ok (.aload_n 2, 1) := by decide +kernel
theorem dX3_settleCredits_70 : decode cX3_settleCredits 70 = .ok (.dup, 1) := by decide +kernel
theorem dX3_settleCredits_71 : decode cX3_settleCredits 71 = .ok (.getfield 186, 3) := by decide +kernel
theorem dX3_settleCredits_74 : decode cX3_settleCredits 74 = .ok (.iload_n 3, 1) := by decide +kernel
theorem dX3_settleCredits_75 : decode cX3_settleCredits 75 = .ok (.isub, 1) := by decide +kernel
theorem dX3_settleCredits_76 : decode cX3_settleCredits 76 = .ok (.putfield 186, 3) := by decide +kernel
theorem dX3_settleCredits_79 : decode cX3_settleCredits 79 = .ok (.return_, 1) := by decide +kernel
theorem dX3_askByRule_0 : decode cX3_askByRule 0 = .ok (.aload_n 0, 1) := by decide +kernel
theorem dX3_askByRule_1 : decode cX3_askByRule 1 = .ok (.aload_n 1, 1) := by decide +kernel
theorem dX3_askByRule_2 : decode cX3_askByRule 2 = .ok (.getfield 199, 3) := by decide +kernel
theorem dX3_askByRule_5 : decode cX3_askByRule 5 = .ok (.aload_n 1, 1) := by decide +kernel
theorem dX3_askByRule_6 : decode cX3_askByRule 6 = .ok (.getfield 202, 3) := by decide +kernel
theorem dX3_askByRule_9 : decode cX3_askByRule 9 = .ok (.invokevirtual 140, 3) := by decide +kernel
theorem dX3_askByRule_12 : decode cX3_askByRule 12 = .ok (.astore_n 2, 1) := by decide +kernel
theorem dX3_askByRule_13 : decode cX3_askByRule 13 = .ok (.aload_n 2, 1) := by decide +kernel
theorem dX3_askByRule_14 : decode cX3_askByRule 14 = .ok (.ifnonnull 5, 3) := by decide +kernel
theorem dX3_askByRule_17 : decode cX3_askByRule 17 = .ok (.iconst 0, 1) := by decide +kernel
theorem dX3_askByRule_18 : decode cX3_askByRule 18 = .ok (.ireturn, 1) := by decide +kernel
theorem dX3_askByRule_19 : decode cX3_askByRule 19 = .ok (.aload_n 0, 1) := by decide +kernel
theorem dX3_askByRule_20 : decode cX3_askByRule 20 = .ok (.getfield 29, 3) := by decide +kernel
theorem dX3_askByRule_23 : decode cX3_askByRule 23 = .ok (.ifCond .ne 12, 3) := by decide +kernel
theorem dX3_askByRule_26 : decode cX3_askByRule 26 = .ok (.aload_n 0, 1) := by decide +kernel
theorem dX3_askByRule_27 : decode cX3_askByRule 27 = .ok (.aload_n 1, 1) := by decide +kernel
theorem dX3_askByRule_28 : decode cX3_askByRule 28 = .ok (.getfield 202, 3) := by decide +kernel
theorem dX3_askByRule_31 : decode cX3_askByRule 31 = .ok (.aload_n 2, 1) := by decide +kernel
theorem dX3_askByRule_32 : decode cX3_askByRule 32 = .ok (.invokevirtual 205, 3) := by decide +kernel
theorem dX3_askByRule_35 : decode cX3_askByRule 35 = .ok (.aload_n 1, 1) := by decide +kernel
theorem dX3_askByRule_36 : decode cX3_askByRule 36 = .ok (.aload_n 2, 1) := by decide +kernel
theorem dX3_askByRule_37 : decode cX3_askByRule 37 = .ok (.aload_n 0, 1) := by decide +kernel
theorem dX3_askByRule_38 : decode cX3_askByRule 38 = .ok (.getfield 95, 3) := by decide +kernel
theorem dX3_askByRule_41 : decode cX3_askByRule 41 = .ok (.invokevirtual 209, 3) := by decide +kernel
theorem dX3_askByRule_44 : decode cX3_askByRule 44 = .ok (.invokevirtual 213, 3) := by decide +kernel
theorem dX3_askByRule_47 : decode cX3_askByRule 47 = .ok (.iconst 1, 1) := by decide +kernel
theorem dX3_askByRule_48 : decode cX3_askByRule 48 = .ok (.ireturn, 1) := by decide +kernel
theorem dX3_joinLine_0 : decode cX3_joinLine 0 = .ok (.aload_n 1, 1) := by decide +kernel
theorem dX3_joinLine_1 : decode cX3_joinLine 1 = .ok (.iconst 0, 1) := by decide +kernel
theorem dX3_joinLine_2 : decode cX3_joinLine 2 = .ok (.putfield 118, 3) := by decide +kernel
theorem dX3_joinLine_5 : decode cX3_joinLine 5 = .ok (.iconst 0, 1) := by decide +kernel
theorem dX3_joinLine_6 : decode cX3_joinLine 6 = .ok (.istore_n 2, 1) := by decide +kernel
theorem dX3_joinLine_7 : decode cX3_joinLine 7 = .ok (.iload_n 2, 1) := by decide +kernel
theorem dX3_joinLine_8 : decode cX3_joinLine 8 = .ok (.aload_n 0, 1) := by decide +kernel
theorem dX3_joinLine_9 : decode cX3_joinLine 9 = .ok (.getfield 22, 3) := by decide +kernel
theorem dX3_joinLine_12 : decode cX3_joinLine 12 = .ok (.invokevirtual 43, 3) := by decide +kernel
theorem dX3_joinLine_15 : decode cX3_joinLine 15 = .ok (.if_icmp .ge 27, 3) := by decide +kernel
theorem dX3_joinLine_18 : decode cX3_joinLine 18 = .ok (.aload_n 0, 1) := by decide +kernel
theorem dX3_joinLine_19 : decode cX3_joinLine 19 = .ok (.getfield 22, 3) := by decide +kernel
theorem dX3_joinLine_22 : decode cX3_joinLine 22 = .ok (.iload_n 2, 1) := by decide +kernel
theorem dX3_joinLine_23 : decode cX3_joinLine 23 = .ok (.invokevirtual 151, 3) := by decide +kernel
theorem dX3_joinLine_26 : decode cX3_joinLine 26 = .ok (.checkcast 93, 3) := by decide +kernel
theorem dX3_joinLine_29 : decode cX3_joinLine 29 = .ok (.aload_n 1, 1) := by decide +kernel
theorem dX3_joinLine_30 : decode cX3_joinLine 30 = .ok (.invokevirtual 217, 3) := by decide +kernel
theorem dX3_joinLine_33 : decode cX3_joinLine 33 = .ok (.ifCond .eq 9, 3) := by decide +kernel
theorem dX3_joinLine_36 : decode cX3_joinLine 36 = .ok (.iinc 2 1, 3) := by decide +kernel
theorem dX3_joinLine_39 : decode cX3_joinLine 39 = .ok (.goto (-32), 3) := by decide +kernel
theorem dX3_joinLine_42 : decode cX3_joinLine 42 = .ok (.aload_n 0, 1) := by decide +kernel
theorem dX3_joinLine_43 : decode cX3_joinLine 43 = .ok (.getfield 22, 3) := by decide +kernel
theorem dX3_joinLine_46 : decode cX3_joinLine 46 = .ok (.iload_n 2, 1) := by decide +kernel
theorem dX3_joinLine_47 : decode cX3_joinLine 47 = .ok (.aload_n 1, 1) := by decide +kernel
theorem dX3_joinLine_48 : decode cX3_joinLine 48 = .ok (.invokevirtual 220, 3) := by decide +kernel
theorem dX3_joinLine_51 : decode cX3_joinLine 51 = .ok (.return_, 1) := by decide +kernel
theorem dX3_leaveLine_0 : decode cX3_leaveLine 0 = .ok (.iconst 0, 1) := by decide +kernel
theorem dX3_leaveLine_1 : decode cX3_leaveLine 1 = .ok (.istore_n 2, 1) := by decide +kernel
theorem dX3_leaveLine_2 : decode cX3_leaveLine 2 = .ok (.iload_n 2, 1) := by decide +kernel
theorem dX3_leaveLine_3 : decode cX3_leaveLine 3 = .ok (.aload_n 0, 1) := by decide +kernel
theorem dX3_leaveLine_4 : decode cX3_leaveLine 4 = .ok (.getfield 22, 3) := by decide +kernel
theorem dX3_leaveLine_7 : decode cX3_leaveLine 7 = .ok (.invokevirtual 43, 3) := by decide +kernel
theorem dX3_leaveLine_10 : decode cX3_leaveLine 10 = .ok (.if_icmp .ge 40, 3) := by decide +kernel
theorem dX3_leaveLine_13 : decode cX3_leaveLine 13 = .ok (.aload_n 0, 1) := by decide +kernel
theorem dX3_leaveLine_14 : decode cX3_leaveLine 14 = .ok (.getfield 22, 3) := by decide +kernel
theorem dX3_leaveLine_17 : decode cX3_leaveLine 17 = .ok (.iload_n 2, 1) := by decide +kernel
theorem dX3_leaveLine_18 : decode cX3_leaveLine 18 = .ok (.invokevirtual 151, 3) := by decide +kernel
theorem dX3_leaveLine_21 : decode cX3_leaveLine 21 = .ok (.checkcast 93, 3) := by decide +kernel
theorem dX3_leaveLine_24 : decode cX3_leaveLine 24 = .ok (.getfield 109, 3) := by decide +kernel
theorem dX3_leaveLine_27 : decode cX3_leaveLine 27 = .ok (.aload_n 1, 1) := by decide +kernel
theorem dX3_leaveLine_28 : decode cX3_leaveLine 28 = .ok (.getfield 109, 3) := by decide +kernel
theorem dX3_leaveLine_31 : decode cX3_leaveLine 31 = .ok (.if_icmp .ne 13, 3) := by decide +kernel
theorem dX3_leaveLine_34 : decode cX3_leaveLine 34 = .ok (.aload_n 0, 1) := by decide +kernel
theorem dX3_leaveLine_35 : decode cX3_leaveLine 35 = .ok (.getfield 22, 3) := by decide +kernel
theorem dX3_leaveLine_38 : decode cX3_leaveLine 38 = .ok (.iload_n 2, 1) := by decide +kernel
theorem dX3_leaveLine_39 : decode cX3_leaveLine 39 = .ok (.invokevirtual 223, 3) := by decide +kernel
theorem dX3_leaveLine_42 : decode cX3_leaveLine 42 = .ok (.pop, 1) := by decide +kernel
theorem dX3_leaveLine_43 : decode cX3_leaveLine 43 = .ok (.return_, 1) := by decide +kernel
theorem dX3_leaveLine_44 : decode cX3_leaveLine 44 = .ok (.iinc 2 1, 3) := by decide +kernel
theorem dX3_leaveLine_47 : decode cX3_leaveLine 47 = .ok (.goto (-45), 3) := by decide +kernel
theorem dX3_leaveLine_50 : decode cX3_leaveLine 50 = .ok (.return_, 1) := by decide +kernel
theorem dX3_end_0 : decode cX3_end 0 = .ok (.aload_n 1, 1) := by decide +kernel
theorem dX3_end_1 : decode cX3_end 1 = .ok (.iload_n 2, 1) := by decide +kernel
theorem dX3_end_2 : decode cX3_end 2 = .ok (.putfield 118, 3) := by decide +kernel
theorem dX3_end_5 : decode cX3_end 5 = .ok (.aload_n 1, 1) := by decide +kernel
theorem dX3_end_6 : decode cX3_end 6 = .ok (.aload_n 0, 1) := by decide +kernel
theorem dX3_end_7 : decode cX3_end 7 = .ok (.getfield 95, 3) := by decide +kernel
theorem dX3_end_10 : decode cX3_end 10 = .ok (.putfield 226, 3) := by decide +kernel
theorem dX3_end_13 : decode cX3_end 13 = .ok (.aload_n 0, 1) := by decide +kernel
theorem dX3_end_14 : decode cX3_end 14 = .ok (.dup, 1) := by decide +kernel
theorem dX3_end_15 : decode cX3_end 15 = .ok (.getfield 134, 3) := by decide +kernel
theorem dX3_end_18 : decode cX3_end 18 = .ok (.iconst 1, 1) := by decide +kernel
theorem dX3_end_19 : decode cX3_end 19 = .ok (.iadd, 1) := by decide +kernel
theorem dX3_end_20 : decode cX3_end 20 = .ok (.putfield 134, 3) := by decide +kernel
theorem dX3_end_23 : decode cX3_end 23 = .ok (.return_, 1) := by decide +kernel
theorem dX3_dropEnded_0 : decode cX3_dropEnded 0 = .ok (.aload_n 0, 1) := by decide +kernel
theorem dX3_dropEnded_1 : decode cX3_dropEnded 1 = .ok (.getfield 19, 3) := by decide +kernel
theorem dX3_dropEnded_4 : decode cX3_dropEnded 4 = .ok (.invokevirtual 43, 3) := by decide +kernel
theorem dX3_dropEnded_7 : decode cX3_dropEnded 7 = .ok (.iconst 1, 1) := by decide +kernel
theorem dX3_dropEnded_8 : decode cX3_dropEnded 8 = .ok (.isub, 1) := by decide +kernel
theorem dX3_dropEnded_9 : decode cX3_dropEnded 9 = .ok (.istore_n 1, 1) := by decide +kernel
theorem dX3_dropEnded_10 : decode cX3_dropEnded 10 = .ok (.iload_n 1, 1) := by decide +kernel
theorem dX3_dropEnded_11 : decode cX3_dropEnded 11 = .ok (.ifCond .lt 35, 3) := by decide +kernel
theorem dX3_dropEnded_14 : decode cX3_dropEnded 14 = .ok (.aload_n 0, 1) := by decide +kernel
theorem dX3_dropEnded_15 : decode cX3_dropEnded 15 = .ok (.getfield 19, 3) := by decide +kernel
theorem dX3_dropEnded_18 : decode cX3_dropEnded 18 = .ok (.iload_n 1, 1) := by decide +kernel
theorem dX3_dropEnded_19 : decode cX3_dropEnded 19 = .ok (.invokevirtual 151, 3) := by decide +kernel
theorem dX3_dropEnded_22 : decode cX3_dropEnded 22 = .ok (.checkcast 93, 3) := by decide +kernel
theorem dX3_dropEnded_25 : decode cX3_dropEnded 25 = .ok (.invokevirtual 114, 3) := by decide +kernel
theorem dX3_dropEnded_28 : decode cX3_dropEnded 28 = .ok (.ifCond .eq 12, 3) := by decide +kernel
theorem dX3_dropEnded_31 : decode cX3_dropEnded 31 = .ok (.aload_n 0, 1) := by decide +kernel
theorem dX3_dropEnded_32 : decode cX3_dropEnded 32 = .ok (.getfield 19, 3) := by decide +kernel
theorem dX3_dropEnded_35 : decode cX3_dropEnded 35 = .ok (.iload_n 1, 1) := by decide +kernel
theorem dX3_dropEnded_36 : decode cX3_dropEnded 36 = .ok (.invokevirtual 223, 3) := by decide +kernel
theorem dX3_dropEnded_39 : decode cX3_dropEnded 39 = .ok (.pop, 1) := by decide +kernel
theorem dX3_dropEnded_40 : decode cX3_dropEnded 40 = .ok (.iinc 1 (-1), 3) := by decide +kernel
theorem dX3_dropEnded_43 : decode cX3_dropEnded 43 = .ok (.goto (-33), 3) := by decide +kernel
theorem dX3_dropEnded_46 : decode cX3_dropEnded 46 = .ok (.return_, 1) := by decide +kernel
theorem dX3_passTick_0 : decode cX3_passTick 0 = .ok (.aload_n 0, 1) := by decide +kernel
theorem dX3_passTick_1 : decode cX3_passTick 1 = .ok (.dup, 1) := by decide +kernel
theorem dX3_passTick_2 : decode cX3_passTick 2 = .ok (.getfield 95, 3) := by decide +kernel
theorem dX3_passTick_5 : decode cX3_passTick 5 = .ok (.iconst 1, 1) := by decide +kernel
theorem dX3_passTick_6 : decode cX3_passTick 6 = .ok (.iadd, 1) := by decide +kernel
theorem dX3_passTick_7 : decode cX3_passTick 7 = .ok (.putfield 95, 3) := by decide +kernel
theorem dX3_passTick_10 : decode cX3_passTick 10 = .ok (.aload_n 0, 1) := by decide +kernel
theorem dX3_passTick_11 : decode cX3_passTick 11 = .ok (.invokevirtual 229, 3) := by decide +kernel
theorem dX3_passTick_14 : decode cX3_passTick 14 = .ok (.aload_n 0, 1) := by decide +kernel
theorem dX3_passTick_15 : decode cX3_passTick 15 = .ok (.invokevirtual 232, 3) := by decide +kernel
theorem dX3_passTick_18 : decode cX3_passTick 18 = .ok (.aload_n 0, 1) := by decide +kernel
theorem dX3_passTick_19 : decode cX3_passTick 19 = .ok (.invokevirtual 131, 3) := by decide +kernel
theorem dX3_passTick_22 : decode cX3_passTick 22 = .ok (.aload_n 0, 1) := by decide +kernel
theorem dX3_passTick_23 : decode cX3_passTick 23 = .ok (.invokevirtual 235, 3) := by decide +kernel
theorem dX3_passTick_26 : decode cX3_passTick 26 = .ok (.aload_n 0, 1) := by decide +kernel
theorem dX3_passTick_27 : decode cX3_passTick 27 = .ok (.invokevirtual 238, 3) := by decide +kernel
theorem dX3_passTick_30 : decode cX3_passTick 30 = .ok (.aload_n 0, 1) := by decide +kernel
theorem dX3_passTick_31 : decode cX3_passTick 31 = .ok (.invokevirtual 241, 3) := by decide +kernel
theorem dX3_passTick_34 : decode cX3_passTick 34 = .ok (.aload_n 0, 1) := by decide +kernel
theorem dX3_passTick_35 : decode cX3_passTick 35 = .ok (.invokevirtual 244, 3) := by decide +kernel
theorem dX3_passTick_38 : decode cX3_passTick 38 = .ok (.return_, 1) := by decide +kernel
theorem dX3_takeWhatIsOver_0 : decode cX3_takeWhatIsOver 0 = .ok (.iconst 0, 1) := by decide +kernel
theorem dX3_takeWhatIsOver_1 : decode cX3_takeWhatIsOver 1 = .ok (.istore_n 1, 1) := by decide +kernel
theorem dX3_takeWhatIsOver_2 : decode cX3_takeWhatIsOver 2 = .ok (.iload_n 1, 1) := by decide +kernel
theorem dX3_takeWhatIsOver_3 : decode cX3_takeWhatIsOver 3 = .ok (.aload_n 0, 1) := by decide +kernel
theorem dX3_takeWhatIsOver_4 : decode cX3_takeWhatIsOver 4 = .ok (.getfield 19, 3) := by decide +kernel
theorem dX3_takeWhatIsOver_7 : decode cX3_takeWhatIsOver 7 = .ok (.invokevirtual 43, 3) := by decide +kernel
theorem dX3_takeWhatIsOver_10 : decode cX3_takeWhatIsOver 10 = .ok (.if_icmp .ge 85, 3) := by decide +kernel
theorem dX3_takeWhatIsOver_13 : decode cX3_takeWhatIsOver 13 = .ok (.aload_n 0, 1) := by decide +kernel
theorem dX3_takeWhatIsOver_14 : decode cX3_takeWhatIsOver 14 = .ok (.getfield 19, 3) := by decide +kernel
theorem dX3_takeWhatIsOver_17 : decode cX3_takeWhatIsOver 17 = .ok (.iload_n 1, 1) := by decide +kernel
theorem dX3_takeWhatIsOver_18 : decode cX3_takeWhatIsOver 18 = .ok (.invokevirtual 151, 3) := by decide +kernel
theorem dX3_takeWhatIsOver_21 : decode cX3_takeWhatIsOver 21 = .ok (.checkcast 93, 3) := by decide +kernel
theorem dX3_takeWhatIsOver_24 : decode cX3_takeWhatIsOver 24 = .ok (.astore_n 2, 1) := by decide +kernel
theorem dX3_takeWhatIsOver_25 : decode cX3_takeWhatIsOver 25 = .ok (.aload_n 2, 1) := by decide +kernel
theorem dX3_takeWhatIsOver_26 : decode cX3_takeWhatIsOver 26 = .ok (.getfield 247, 3) := by decide +kernel
theorem dX3_takeWhatIsOver_29 : decode cX3_takeWhatIsOver 29 = .ok (.astore_n 3, 1) := by decide +kernel
theorem dX3_takeWhatIsOver_30 : decode cX3_takeWhatIsOver 30 = .ok (.aload_n 2, 1) := by decide +kernel
theorem dX3_takeWhatIsOver_31 : decode cX3_takeWhatIsOver 31 = .ok (.getfield 251, 3) := by decide +kernel
theorem dX3_takeWhatIsOver_34 : decode cX3_takeWhatIsOver 34 = .ok (.astore 4, 2) := by decide +kernel
theorem dX3_takeWhatIsOver_36 : decode cX3_takeWhatIsOver 36 = .ok (.aload_n 3, 1) := by decide +kernel
theorem dX3_takeWhatIsOver_37 : decode cX3_takeWhatIsOver 37 = .ok (.ifnull 20, 3) := by decide +kernel
theorem dX3_takeWhatIsOver_40 : decode cX3_takeWhatIsOver 40 = .ok (.aload_n 3, 1) := by decide +kernel
theorem dX3_takeWhatIsOver_41 : decode cX3_takeWhatIsOver 41 = .ok (.getfield 254, 3) := by decide +kernel
theorem dX3_takeWhatIsOver_44 : decode cX3_takeWhatIsOver 44 = .ok (.aload_n 0, 1) := by decide +kernel
theorem dX3_takeWhatIsOver_45 : decode cX3_takeWhatIsOver 45 = .ok (.getfield 95, 3) := by decide +kernel
theorem dX3_takeWhatIsOver_48 : decode cX3_takeWhatIsOver 48 = .ok (.if_icmp .ne 9, 3) := by decide +kernel
theorem dX3_takeWhatIsOver_51 : decode cX3_takeWhatIsOver 51 = .ok (.aload_n 0, 1) := by decide +kernel
theorem dX3_takeWhatIsOver_52 : decode cX3_takeWhatIsOver 52 = .ok (.aload_n 2, 1) := by decide +kernel
theorem dX3_takeWhatIsOver_53 : decode cX3_takeWhatIsOver 53 = .ok (.aload_n 3, 1) := by decide +kernel
theorem dX3_takeWhatIsOver_54 : decode cX3_takeWhatIsOver 54 = .ok (.invokevirtual 259, 3) := by decide +kernel
theorem dX3_takeWhatIsOver_57 : decode cX3_takeWhatIsOver 57 = .ok (.aload 4, 2) := by decide +kernel
theorem dX3_takeWhatIsOver_59 : decode cX3_takeWhatIsOver 59 = .ok (.ifnull 30, 3) := by decide +kernel
theorem dX3_takeWhatIsOver_62 : decode cX3_takeWhatIsOver 62 = .ok (.aload 4, 2) := by decide +kernel
theorem dX3_takeWhatIsOver_64 : decode cX3_takeWhatIsOver 64 = .ok (.getfield 254, 3) := by decide +kernel
theorem dX3_takeWhatIsOver_67 : decode cX3_takeWhatIsOver 67 = .ok (.aload_n 0, 1) := by decide +kernel
theorem dX3_takeWhatIsOver_68 : decode cX3_takeWhatIsOver 68 = .ok (.getfield 95, 3) := by decide +kernel
theorem dX3_takeWhatIsOver_71 : decode cX3_takeWhatIsOver 71 = .ok (.if_icmp .ne 18, 3) := by decide +kernel
theorem dX3_takeWhatIsOver_74 : decode cX3_takeWhatIsOver 74 = .ok (.aload_n 2, 1) := by decide +kernel
theorem dX3_takeWhatIsOver_75 : decode cX3_takeWhatIsOver 75 = .ok (.getfield 118, 3) := by decide +kernel
theorem dX3_takeWhatIsOver_78 : decode cX3_takeWhatIsOver 78 = .ok (.iconst 1, 1) := by decide +kernel
theorem dX3_takeWhatIsOver_79 : decode cX3_takeWhatIsOver 79 = .ok (.if_icmp .ne 10, 3) := by decide +kernel
theorem dX3_takeWhatIsOver_82 : decode cX3_takeWhatIsOver 82 = .ok (.aload_n 0, 1) := by decide +kernel
theorem dX3_takeWhatIsOver_83 : decode cX3_takeWhatIsOver 83 = .ok (.aload_n 2, 1) := by decide +kernel
theorem dX3_takeWhatIsOver_84 : decode cX3_takeWhatIsOver 84 = .ok (.aload 4, 2) := by decide +kernel
theorem dX3_takeWhatIsOver_86 : decode cX3_takeWhatIsOver 86 = .ok (.invokevirtual 259, 3) := by decide +kernel
theorem dX3_takeWhatIsOver_89 : decode cX3_takeWhatIsOver 89 = .ok (.iinc 1 1, 3) := by decide +kernel
theorem dX3_takeWhatIsOver_92 : decode cX3_takeWhatIsOver 92 = .ok (.goto (-90), 3) := by decide +kernel
theorem dX3_takeWhatIsOver_95 : decode cX3_takeWhatIsOver 95 = .ok (.return_, 1) := by decide +kernel
theorem dX3_takeAnswer_0 : decode cX3_takeAnswer 0 = .ok (.aload_n 2, 1) := by decide +kernel
theorem dX3_takeAnswer_1 : decode cX3_takeAnswer 1 = .ok (.getfield 263, 3) := by decide +kernel
theorem dX3_takeAnswer_4 : decode cX3_takeAnswer 4 = .ok (.ifCond .ne 32, 3) := by decide +kernel
theorem dX3_takeAnswer_7 : decode cX3_takeAnswer 7 = .ok (.aload_n 2, 1) := by decide +kernel
theorem dX3_takeAnswer_8 : decode cX3_takeAnswer 8 = .ok (.getfield 267, 3) := by decide +kernel
theorem dX3_takeAnswer_11 : decode cX3_takeAnswer 11 = .ok (.invokevirtual 271, 3) := by decide +kernel
theorem dX3_takeAnswer_14 : decode cX3_takeAnswer 14 = .ok (.aload_n 1, 1) := by decide +kernel
theorem dX3_takeAnswer_15 : decode cX3_takeAnswer 15 = .ok (.aload_n 2, 1) := by decide +kernel
theorem dX3_takeAnswer_16 : decode cX3_takeAnswer 16 = .ok (.getfield 267, 3) := by decide +kernel
theorem dX3_takeAnswer_19 : decode cX3_takeAnswer 19 = .ok (.getfield 56, 3) := by decide +kernel
theorem dX3_takeAnswer_22 : decode cX3_takeAnswer 22 = .ok (.putfield 274, 3) := by decide +kernel
theorem dX3_takeAnswer_25 : decode cX3_takeAnswer 25 = .ok (.aload_n 1, 1) := by decide +kernel
theorem dX3_takeAnswer_26 : decode cX3_takeAnswer 26 = .ok (.invokevirtual 124, 3) := by decide +kernel
theorem dX3_takeAnswer_29 : decode cX3_takeAnswer 29 = .ok (.aload_n 0, 1) := by decide +kernel
theorem dX3_takeAnswer_30 : decode cX3_takeAnswer 30 = .ok (.aload_n 1, 1) := by decide +kernel
theorem dX3_takeAnswer_31 : decode cX3_takeAnswer 31 = .ok (.iconst 2, 1) := by decide +kernel
theorem dX3_takeAnswer_32 : decode cX3_takeAnswer 32 = .ok (.invokevirtual 127, 3) := by decide +kernel
theorem dX3_takeAnswer_35 : decode cX3_takeAnswer 35 = .ok (.return_, 1) := by decide +kernel
theorem dX3_takeAnswer_36 : decode cX3_takeAnswer 36 = .ok (.aload_n 1, 1) := by decide +kernel
theorem dX3_takeAnswer_37 : decode cX3_takeAnswer 37 = .ok (.aload_n 2, 1) := by decide +kernel
theorem dX3_takeAnswer_38 : decode cX3_takeAnswer 38 = .ok (.invokevirtual 277, 3) := by decide +kernel
theorem dX3_takeAnswer_41 : decode cX3_takeAnswer 41 = .ok (.aload_n 0, 1) := by decide +kernel
theorem dX3_takeAnswer_42 : decode cX3_takeAnswer 42 = .ok (.aload_n 2, 1) := by decide +kernel
theorem dX3_takeAnswer_43 : decode cX3_takeAnswer 43 = .ok (.getfield 267, 3) := by decide +kernel
theorem dX3_takeAnswer_46 : decode cX3_takeAnswer 46 = .ok (.invokevirtual 280, 3) := by decide +kernel
theorem dX3_takeAnswer_49 : decode cX3_takeAnswer 49 = .ok (.aload_n 1, 1) := by decide +kernel
theorem dX3_takeAnswer_50 : decode cX3_takeAnswer 50 = .ok (.getfield 247, 3) := by decide +kernel
theorem dX3_takeAnswer_53 : decode cX3_takeAnswer 53 = .ok (.ifnull 4, 3) := by decide +kernel
theorem dX3_takeAnswer_56 : decode cX3_takeAnswer 56 = .ok (.return_, 1) := by decide +kernel
theorem dX3_takeAnswer_57 : decode cX3_takeAnswer 57 = .ok (.aload_n 1, 1) := by decide +kernel
theorem dX3_takeAnswer_58 : decode cX3_takeAnswer 58 = .ok (.getfield 284, 3) := by decide +kernel
theorem dX3_takeAnswer_61 : decode cX3_takeAnswer 61 = .ok (.ifCond .eq 39, 3) := by decide +kernel
theorem dX3_takeAnswer_64 : decode cX3_takeAnswer 64 = .ok (.aload_n 0, 1) := by decide +kernel
theorem dX3_takeAnswer_65 : decode cX3_takeAnswer 65 = .ok (.getfield 95, 3) := by decide +kernel
theorem dX3_takeAnswer_68 : decode cX3_takeAnswer 68 = .ok (.aload_n 1, 1) := by decide +kernel
theorem dX3_takeAnswer_69 : decode cX3_takeAnswer 69 = .ok (.getfield 287, 3) := by decide +kernel
theorem dX3_takeAnswer_72 : decode cX3_takeAnswer 72 = .ok (.if_icmp .ge 28, 3) := by decide +kernel
theorem dX3_takeAnswer_75 : decode cX3_takeAnswer 75 = .ok (.aload_n 0, 1) := by decide +kernel
theorem dX3_takeAnswer_76 : decode cX3_takeAnswer 76 = .ok (.invokevirtual 290, 3) := by decide +kernel
theorem dX3_takeAnswer_79 : decode cX3_takeAnswer 79 = .ok (.ifCond .eq 21, 3) := by decide +kernel
theorem dX3_takeAnswer_82 : decode cX3_takeAnswer 82 = .ok (.aload_n 0, 1) := by decide +kernel
theorem dX3_takeAnswer_83 : decode cX3_takeAnswer 83 = .ok (.dup, 1) := by decide +kernel
theorem dX3_takeAnswer_84 : decode cX3_takeAnswer 84 = .ok (.getfield 164, 3) := by decide +kernel
theorem dX3_takeAnswer_87 : decode cX3_takeAnswer 87 = .ok (.iconst 1, 1) := by decide +kernel
theorem dX3_takeAnswer_88 : decode cX3_takeAnswer 88 = .ok (.iadd, 1) := by decide +kernel
theorem dX3_takeAnswer_89 : decode cX3_takeAnswer 89 = .ok (.putfield 164, 3) := by decide +kernel
theorem dX3_takeAnswer_92 : decode cX3_takeAnswer 92 = .ok (.aload_n 0, 1) := by decide +kernel
theorem dX3_takeAnswer_93 : decode cX3_takeAnswer 93 = .ok (.aload_n 1, 1) := by decide +kernel
theorem dX3_takeAnswer_94 : decode cX3_takeAnswer 94 = .ok (.invokevirtual 105, 3) := by decide +kernel
theorem dX3_takeAnswer_97 : decode cX3_takeAnswer 97 = .ok (.goto 9, 3) := by decide +kernel
theorem dX3_takeAnswer_100 : decode cX3_takeAnswer 100 = .ok (.aload_n 0, 1) := by decide +kernel
theorem dX3_takeAnswer_101 : decode cX3_takeAnswer 101 = .ok (.aload_n 1, 1) := by decide +kernel
theorem dX3_takeAnswer_102 : decode cX3_takeAnswer 102 = .ok (.iconst 3, 1) := by decide +kernel
theorem dX3_takeAnswer_103 : decode cX3_takeAnswer 103 = .ok (.invokevirtual 127, 3) := by decide +kernel
theorem dX3_takeAnswer_106 : decode cX3_takeAnswer 106 = .ok (.return_, 1) := by decide +kernel
theorem dX3_budgetHolds_0 : decode cX3_budgetHolds 0 = .ok (.bipush 100, 2) := by decide +kernel
theorem dX3_budgetHolds_2 : decode cX3_budgetHolds 2 = .ok (.aload_n 0, 1) := by decide +kernel
theorem dX3_budgetHolds_3 : decode cX3_budgetHolds 3 = .ok (.getfield 164, 3) := by decide +kernel
theorem dX3_budgetHolds_6 : decode cX3_budgetHolds 6 = .ok (.iconst 1, 1) := by decide +kernel
theorem dX3_budgetHolds_7 : decode cX3_budgetHolds 7 = .ok (.iadd, 1) := by decide +kernel
theorem dX3_budgetHolds_8 : decode cX3_budgetHolds 8 = .ok (.imul, 1) := by decide +kernel
theorem dX3_budgetHolds_9 : decode cX3_budgetHolds 9 = .ok (.aload_n 0, 1) := by decide +kernel
theorem dX3_budgetHolds_10 : decode cX3_budgetHolds 10 = .ok (.getfield 36, 3) := by decide +kernel
theorem dX3_budgetHolds_13 : decode cX3_budgetHolds 13 = .ok (.aload_n 0, 1) := by decide +kernel
theorem dX3_budgetHolds_14 : decode cX3_budgetHolds 14 = .ok (.getfield 16, 3) := by decide +kernel
theorem dX3_budgetHolds_17 : decode cX3_budgetHolds 17 = .ok (.invokevirtual 43, 3) := by decide +kernel
theorem dX3_budgetHolds_20 : decode cX3_budgetHolds 20 = .ok (.imul, 1) := by decide +kernel
theorem dX3_budgetHolds_21 : decode cX3_budgetHolds 21 = .ok (.if_icmp .gt 7, 3) := by decide +kernel
theorem dX3_budgetHolds_24 : decode cX3_budgetHolds 24 = .ok (.iconst 1, 1) := by decide +kernel
theorem dX3_budgetHolds_25 : decode cX3_budgetHolds 25 = .ok (.goto 4, 3) := by decide +kernel
theorem dX3_budgetHolds_28 : decode cX3_budgetHolds 28 = .ok (.iconst 0, 1) := by decide +kernel
theorem dX3_budgetHolds_29 : decode cX3_budgetHolds 29 = .ok (.ireturn, 1) := by decide +kernel
theorem dX3_failureOf_0 : decode cX3_failureOf 0 = .ok (.aload_n 1, 1) := by decide +kernel
theorem dX3_failureOf_1 : decode cX3_failureOf 1 = .ok (.dup, 1) := by decide +kernel
theorem dX3_failureOf_2 : decode cX3_failureOf 2 = .ok (.getfield 293, 3) := by decide +kernel
theorem dX3_failureOf_5 : decode cX3_failureOf 5 = .ok (.iconst 1, 1) := by decide +kernel
theorem dX3_failureOf_6 : decode cX3_failureOf 6 = .ok (.iadd, 1) := by decide +kernel
theorem dX3_failureOf_7 : decode cX3_failureOf 7 = .ok (.putfield 293, 3) := by decide +kernel
theorem dX3_failureOf_10 : decode cX3_failureOf 10 = .ok (.aload_n 1, 1) := by decide +kernel
theorem dX3_failureOf_11 : decode cX3_failureOf 11 = .ok (.dup, 1) := by decide +kernel
theorem dX3_failureOf_12 : decode cX3_failureOf 12 = .ok (.getfield 83, 3) := by decide +kernel
theorem dX3_failureOf_15 : decode cX3_failureOf 15 = .ok (.iconst 1, 1) := by decide +kernel
theorem dX3_failureOf_16 : decode cX3_failureOf 16 = .ok (.iadd, 1) := by decide +kernel
theorem dX3_failureOf_17 : decode cX3_failureOf 17 = .ok (.putfield 83, 3) := by decide +kernel
theorem dX3_failureOf_20 : decode cX3_failureOf 20 = .ok (.aload_n 1, 1) := by decide +kernel
theorem dX3_failureOf_21 : decode cX3_failureOf 21 = .ok (.getfield 63, 3) := by decide +kernel
theorem dX3_failureOf_24 : decode cX3_failureOf 24 = .ok (.ifCond .ne 40, 3) := by decide +kernel
theorem dX3_failureOf_27 : decode cX3_failureOf 27 = .ok (.aload_n 1, 1) := by decide +kernel
theorem dX3_failureOf_28 : decode cX3_failureOf 28 = .ok (.getfield 83, 3) := by decide +kernel
theorem dX3_failureOf_31 : decode cX3_failureOf 31 = .ok (.aload_n 0, 1) := by decide +kernel
theorem dX3_failureOf_32 : decode cX3_failureOf 32 = .ok (.getfield 33, 3) := by decide +kernel
theorem dX3_failureOf_35 : decode cX3_failureOf 35 = .ok (.if_icmp .lt 29, 3) := by decide +kernel
theorem dX3_failureOf_38 : decode cX3_failureOf 38 = .ok (.aload_n 0, 1) := by decide +kernel
theorem dX3_failureOf_39 : decode cX3_failureOf 39 = .ok (.invokevirtual 296, 3) := by decide +kernel
theorem dX3_failureOf_42 : decode cX3_failureOf 42 = .ok (.ifCond .eq 11, 3) := by decide +kernel
theorem dX3_failureOf_45 : decode cX3_failureOf 45 = .ok (.aload_n 1, 1) := by decide +kernel
theorem dX3_failureOf_46 : decode cX3_failureOf 46 = .ok (.iconst 0, 1) := by decide +kernel
theorem dX3_failureOf_47 : decode cX3_failureOf 47 = .ok (.putfield 83, 3) := by decide +kernel
theorem dX3_failureOf_50 : decode cX3_failureOf 50 = .ok (.goto 45, 3) := by decide +kernel
theorem dX3_failureOf_53 : decode cX3_failureOf 53 = .ok (.aload_n 1, 1) := by decide +kernel
theorem dX3_failureOf_54 : decode cX3_failureOf 54 = .ok (.aload_n 0, 1) := by decide +kernel
theorem dX3_failureOf_55 : decode cX3_failureOf 55 = .ok (.getfield 95, 3) := by decide +kernel
theorem dX3_failureOf_58 : decode cX3_failureOf 58 = .ok (.invokevirtual 299, 3) := by decide +kernel
theorem dX3_failureOf_61 : decode cX3_failureOf 61 = .ok (.goto 34, 3) := by decide +kernel
theorem dX3_failureOf_64 : decode cX3_failureOf 64 = .ok (.aload_n 1, 1) := by decide +kernel
theorem dX3_failureOf_65 : decode cX3_failureOf 65 = .ok (.getfield 63, 3) := by decide +kernel
theorem dX3_failureOf_68 : decode cX3_failureOf 68 = .ok (.iconst 2, 1) := by decide +kernel
theorem dX3_failureOf_69 : decode cX3_failureOf 69 = .ok (.if_icmp .ne 26, 3) := by decide +kernel
theorem dX3_failureOf_72 : decode cX3_failureOf 72 = .ok (.aload_n 0, 1) := by decide +kernel
theorem dX3_failureOf_73 : decode cX3_failureOf 73 = .ok (.invokevirtual 296, 3) := by decide +kernel
theorem dX3_failureOf_76 : decode cX3_failureOf 76 = .ok (.ifCond .eq 11, 3) := by decide +kernel
theorem dX3_failureOf_79 : decode cX3_failureOf 79 = .ok (.aload_n 1, 1) := by decide +kernel
theorem dX3_failureOf_80 : decode cX3_failureOf 80 = .ok (.iconst 0, 1) := by decide +kernel
theorem dX3_failureOf_81 : decode cX3_failureOf 81 = .ok (.putfield 63, 3) := by decide +kernel
theorem dX3_failureOf_84 : decode cX3_failureOf 84 = .ok (.goto 11, 3) := by decide +kernel
theorem dX3_failureOf_87 : decode cX3_failureOf 87 = .ok (.aload_n 1, 1) := by decide +kernel
theorem dX3_failureOf_88 : decode cX3_failureOf 88 = .ok (.aload_n 0, 1) := by decide +kernel
theorem dX3_failureOf_89 : decode cX3_failureOf 89 = .ok (.getfield 95, 3) := by decide +kernel
theorem dX3_failureOf_92 : decode cX3_failureOf 92 = .ok (.invokevirtual 299, 3) := by decide +kernel
theorem dX3_failureOf_95 : decode cX3_failureOf 95 = .ok (.return_, 1) := by decide +kernel
theorem dX3_oneMoreOutIsTooMany_0 : decode cX3_oneMoreOutIsTooMany 0 = .ok (.iconst 1, 1) := by decide +kernel
theorem dX3_oneMoreOutIsTooMany_1 : decode cX3_oneMoreOutIsTooMany 1 = .ok (.istore_n 1, 1) := by decide +kernel
theorem dX3_oneMoreOutIsTooMany_2 : decode cX3_oneMoreOutIsTooMany 2 = .ok (.iconst 0, 1) := by decide +kernel
theorem dX3_oneMoreOutIsTooMany_3 : decode cX3_oneMoreOutIsTooMany 3 = .ok (.istore_n 2, 1) := by decide +kernel
theorem dX3_oneMoreOutIsTooMany_4 : decode cX3_oneMoreOutIsTooMany 4 = .ok (.iconst 0, 1) := by decide +kernel
theorem dX3_oneMoreOutIsTooMany_5 : decode cX3_oneMoreOutIsTooMany 5 = .ok (.istore_n 3, 1) := by decide +kernel
theorem dX3_oneMoreOutIsTooMany_6 : decode cX3_oneMoreOutIsTooMany 6 = .ok (.iload_n 3, 1) := by decide +kernel
theorem dX3_oneMoreOutIsTooMany_7 : decode cX3_oneMoreOutIsTooMany 7 = .ok (.aload_n 0, 1) := by decide +kernel
theorem dX3_oneMoreOutIsTooMany_8 : decode cX3_oneMoreOutIsTooMany 8 = .ok (.getfield 10, 3) := by decide +kernel
theorem dX3_oneMoreOutIsTooMany_11 : decode cX3_oneMoreOutIsTooMany 11 = .ok (.invokevirtual 43, 3) := by decide +kernel
theorem dX3_oneMoreOutIsTooMany_14 : decode cX3_oneMoreOutIsTooMany 14 = .ok (.if_icmp .ge 54, 3) := by decide +kernel
theorem dX3_oneMoreOutIsTooMany_17 : decode cX3_oneMoreOutIsTooMany 17 = .ok (.aload_n 0, 1) := by decide +kernel
theorem dX3_oneMoreOutIsTooMany_18 : decode cX3_oneMoreOutIsTooMany 18 = .ok (.getfield 10, 3) := by decide +kernel
theorem dX3_oneMoreOutIsTooMany_21 : decode cX3_oneMoreOutIsTooMany 21 = .ok (.iload_n 3, 1) := by decide +kernel
theorem dX3_oneMoreOutIsTooMany_22 : decode cX3_oneMoreOutIsTooMany 22 = .ok (.invokevirtual 151, 3) := by decide +kernel
theorem dX3_oneMoreOutIsTooMany_25 : decode cX3_oneMoreOutIsTooMany 25 = .ok (.checkcast 47, 3) := by decide +kernel
theorem dX3_oneMoreOutIsTooMany_28 : decode cX3_oneMoreOutIsTooMany 28 = .ok (.getfield 63, 3) := by decide +kernel
theorem dX3_oneMoreOutIsTooMany_31 : decode cX3_oneMoreOutIsTooMany 31 = .ok (.istore 4, 2) := by decide +kernel
theorem dX3_oneMoreOutIsTooMany_33 : decode cX3_oneMoreOutIsTooMany 33 = .ok (.iload 4, 2) := by decide +kernel
theorem dX3_oneMoreOutIsTooMany_35 : decode cX3_oneMoreOutIsTooMany 35 = .ok (.iconst 1, 1) := by decide +kernel
theorem dX3_oneMoreOutIsTooMany_36 : decode cX3_oneMoreOutIsTooMany 36 = .ok (.if_icmp .ne 6, 3) := by decide +kernel
theorem dX3_oneMoreOutIsTooMany_39 : decode cX3_oneMoreOutIsTooMany 39 = .ok (.iinc 1 1, 3) := by decide +kernel
theorem dX3_oneMoreOutIsTooMany_42 : decode cX3_oneMoreOutIsTooMany 42 = .ok (.iload 4, 2) := by decide +kernel
theorem dX3_oneMoreOutIsTooMany_44 : decode cX3_oneMoreOutIsTooMany 44 = .ok (.ifCond .eq 15, 3) := by decide +kernel
theorem dX3_oneMoreOutIsTooMany_47 : decode cX3_oneMoreOutIsTooMany 47 = .ok (.iload 4, 2) := by decide +kernel
theorem dX3_oneMoreOutIsTooMany_49 : decode cX3_oneMoreOutIsTooMany 49 = .ok (.iconst 2, 1) := by decide +kernel
theorem dX3_oneMoreOutIsTooMany_50 : decode cX3_oneMoreOutIsTooMany 50 = .ok (.if_icmp .eq 9, 3) := by decide +kernel
theorem dX3_oneMoreOutIsTooMany_53 : decode cX3_oneMoreOutIsTooMany 53 = .ok (.iload 4, 2) := by decide +kernel
theorem dX3_oneMoreOutIsTooMany_55 : decode cX3_oneMoreOutIsTooMany 55 = .ok (.iconst 1, 1) := by decide +kernel
theorem dX3_oneMoreOutIsTooMany_56 : decode cX3_oneMoreOutIsTooMany 56 = .ok (.if_icmp .ne 6, 3) := by decide +kernel
theorem dX3_oneMoreOutIsTooMany_59 : decode cX3_oneMoreOutIsTooMany 59 = .ok (.iinc 2 1, 3) := by decide +kernel
theorem dX3_oneMoreOutIsTooMany_62 : decode cX3_oneMoreOutIsTooMany 62 = .ok (.iinc 3 1, 3) := by decide +kernel
theorem dX3_oneMoreOutIsTooMany_65 : decode cX3_oneMoreOutIsTooMany 65 = .ok (.goto (-59), 3) := by decide +kernel
theorem dX3_oneMoreOutIsTooMany_68 : decode cX3_oneMoreOutIsTooMany 68 = .ok (.iload_n 1, 1) := by decide +kernel
theorem dX3_oneMoreOutIsTooMany_69 : decode cX3_oneMoreOutIsTooMany 69 = .ok (.iload_n 2, 1) := by decide +kernel
theorem dX3_oneMoreOutIsTooMany_70 : decode cX3_oneMoreOutIsTooMany 70 = .ok (.iconst 2, 1) := by decide +kernel
theorem dX3_oneMoreOutIsTooMany_71 : decode cX3_oneMoreOutIsTooMany 71 = .ok (.idiv, 1) := by decide +kernel
theorem dX3_oneMoreOutIsTooMany_72 : decode cX3_oneMoreOutIsTooMany 72 = .ok (.if_icmp .le 7, 3) := by decide +kernel
theorem dX3_oneMoreOutIsTooMany_75 : decode cX3_oneMoreOutIsTooMany 75 = .ok (.iconst 1, 1) := by decide +kernel
theorem dX3_oneMoreOutIsTooMany_76 : decode cX3_oneMoreOutIsTooMany 76 = .ok (.goto 4, 3) := by decide +kernel
theorem dX3_oneMoreOutIsTooMany_79 : decode cX3_oneMoreOutIsTooMany 79 = .ok (.iconst 0, 1) := by decide +kernel
theorem dX3_oneMoreOutIsTooMany_80 : decode cX3_oneMoreOutIsTooMany 80 = .ok (.ireturn, 1) := by decide +kernel
theorem dX3_meetDues_0 : decode cX3_meetDues 0 = .ok (.iconst 0, 1) := by decide +kernel
theorem dX3_meetDues_1 : decode cX3_meetDues 1 = .ok (.istore_n 1, 1) := by decide +kernel
theorem dX3_meetDues_2 : decode cX3_meetDues 2 = .ok (.iload_n 1, 1) := by decide +kernel
theorem dX3_meetDues_3 : decode cX3_meetDues 3 = .ok (.aload_n 0, 1) := by decide +kernel
theorem dX3_meetDues_4 : decode cX3_meetDues 4 = .ok (.getfield 19, 3) := by decide +kernel
theorem dX3_meetDues_7 : decode cX3_meetDues 7 = .ok (.invokevirtual 43, 3) := by decide +kernel
theorem dX3_meetDues_10 : decode cX3_meetDues 10 = .ok (.if_icmp .ge 69, 3) := by decide +kernel
theorem dX3_meetDues_13 : decode cX3_meetDues 13 = .ok (.aload_n 0, 1) := by decide +kernel
theorem dX3_meetDues_14 : decode cX3_meetDues 14 = .ok (.getfield 19, 3) := by decide +kernel
theorem dX3_meetDues_17 : decode cX3_meetDues 17 = .ok (.iload_n 1, 1) := by decide +kernel
theorem dX3_meetDues_18 : decode cX3_meetDues 18 = .ok (.invokevirtual 151, 3) := by decide +kernel
theorem dX3_meetDues_21 : decode cX3_meetDues 21 = .ok (.checkcast 93, 3) := by decide +kernel
theorem dX3_meetDues_24 : decode cX3_meetDues 24 = .ok (.astore_n 2, 1) := by decide +kernel
theorem dX3_meetDues_25 : decode cX3_meetDues 25 = .ok (.aload_n 2, 1) := by decide +kernel
theorem dX3_meetDues_26 : decode cX3_meetDues 26 = .ok (.getfield 287, 3) := by decide +kernel
theorem dX3_meetDues_29 : decode cX3_meetDues 29 = .ok (.aload_n 0, 1) := by decide +kernel
theorem dX3_meetDues_30 : decode cX3_meetDues 30 = .ok (.getfield 95, 3) := by decide +kernel
theorem dX3_meetDues_33 : decode cX3_meetDues 33 = .ok (.if_icmp .eq 6, 3) := by decide +kernel
theorem dX3_meetDues_36 : decode cX3_meetDues 36 = .ok (.goto 37, 3) := by decide +kernel
theorem dX3_meetDues_39 : decode cX3_meetDues 39 = .ok (.aload_n 2, 1) := by decide +kernel
theorem dX3_meetDues_40 : decode cX3_meetDues 40 = .ok (.getfield 118, 3) := by decide +kernel
theorem dX3_meetDues_43 : decode cX3_meetDues 43 = .ok (.iconst 1, 1) := by decide +kernel
theorem dX3_meetDues_44 : decode cX3_meetDues 44 = .ok (.if_icmp .ne 11, 3) := by decide +kernel
theorem dX3_meetDues_47 : decode cX3_meetDues 47 = .ok (.aload_n 0, 1) := by decide +kernel
theorem dX3_meetDues_48 : decode cX3_meetDues 48 = .ok (.aload_n 2, 1) := by decide +kernel
theorem dX3_meetDues_49 : decode cX3_meetDues 49 = .ok (.invokevirtual 303, 3) := by decide +kernel
theorem dX3_meetDues_52 : decode cX3_meetDues 52 = .ok (.goto 21, 3) := by decide +kernel
theorem dX3_meetDues_55 : decode cX3_meetDues 55 = .ok (.aload_n 2, 1) := by decide +kernel
theorem dX3_meetDues_56 : decode cX3_meetDues 56 = .ok (.getfield 118, 3) := by decide +kernel
theorem dX3_meetDues_59 : decode cX3_meetDues 59 = .ok (.ifCond .ne 14, 3) := by decide +kernel
theorem dX3_meetDues_62 : decode cX3_meetDues 62 = .ok (.aload_n 0, 1) := by decide +kernel
theorem dX3_meetDues_63 : decode cX3_meetDues 63 = .ok (.aload_n 2, 1) := by decide +kernel
theorem dX3_meetDues_64 : decode cX3_meetDues 64 = .ok (.invokevirtual 121, 3) := by decide +kernel
theorem dX3_meetDues_67 : decode cX3_meetDues 67 = .ok (.aload_n 0, 1) := by decide +kernel
theorem dX3_meetDues_68 : decode cX3_meetDues 68 = .ok (.aload_n 2, 1) := by decide +kernel
theorem dX3_meetDues_69 : decode cX3_meetDues 69 = .ok (.iconst 4, 1) := by decide +kernel
theorem dX3_meetDues_70 : decode cX3_meetDues 70 = .ok (.invokevirtual 127, 3) := by decide +kernel
theorem dX3_meetDues_73 : decode cX3_meetDues 73 = .ok (.iinc 1 1, 3) := by decide +kernel
theorem dX3_meetDues_76 : decode cX3_meetDues 76 = .ok (.goto (-74), 3) := by decide +kernel
theorem dX3_meetDues_79 : decode cX3_meetDues 79 = .ok (.return_, 1) := by decide +kernel
theorem dX3_failByDue_0 : decode cX3_failByDue 0 = .ok (.aload_n 1, 1) := by decide +kernel
theorem dX3_failByDue_1 : decode cX3_failByDue 1 = .ok (.getfield 247, 3) := by decide +kernel
theorem dX3_failByDue_4 : decode cX3_failByDue 4 = .ok (.astore_n 2, 1) := by decide +kernel
theorem dX3_failByDue_5 : decode cX3_failByDue 5 = .ok (.aload_n 1, 1) := by decide +kernel
theorem dX3_failByDue_6 : decode cX3_failByDue 6 = .ok (.getfield 251, 3) := by decide +kernel
theorem dX3_failByDue_9 : decode cX3_failByDue 9 = .ok (.astore_n 3, 1) := by decide +kernel
theorem dX3_failByDue_10 : decode cX3_failByDue 10 = .ok (.aload_n 1, 1) := by decide +kernel
theorem dX3_failByDue_11 : decode cX3_failByDue 11 = .ok (.invokevirtual 124, 3) := by decide +kernel
theorem dX3_failByDue_14 : decode cX3_failByDue 14 = .ok (.aload_n 2, 1) := by decide +kernel
theorem dX3_failByDue_15 : decode cX3_failByDue 15 = .ok (.ifnull 11, 3) := by decide +kernel
theorem dX3_failByDue_18 : decode cX3_failByDue 18 = .ok (.aload_n 0, 1) := by decide +kernel
theorem dX3_failByDue_19 : decode cX3_failByDue 19 = .ok (.aload_n 2, 1) := by decide +kernel
theorem dX3_failByDue_20 : decode cX3_failByDue 20 = .ok (.getfield 267, 3) := by decide +kernel
theorem dX3_failByDue_23 : decode cX3_failByDue 23 = .ok (.invokevirtual 280, 3) := by decide +kernel
theorem dX3_failByDue_26 : decode cX3_failByDue 26 = .ok (.aload_n 3, 1) := by decide +kernel
theorem dX3_failByDue_27 : decode cX3_failByDue 27 = .ok (.ifnull 11, 3) := by decide +kernel
theorem dX3_failByDue_30 : decode cX3_failByDue 30 = .ok (.aload_n 0, 1) := by decide +kernel
theorem dX3_failByDue_31 : decode cX3_failByDue 31 = .ok (.aload_n 3, 1) := by decide +kernel
theorem dX3_failByDue_32 : decode cX3_failByDue 32 = .ok (.getfield 267, 3) := by decide +kernel
theorem dX3_failByDue_35 : decode cX3_failByDue 35 = .ok (.invokevirtual 280, 3) := by decide +kernel
theorem dX3_failByDue_38 : decode cX3_failByDue 38 = .ok (.aload_n 0, 1) := by decide +kernel
theorem dX3_failByDue_39 : decode cX3_failByDue 39 = .ok (.aload_n 1, 1) := by decide +kernel
theorem dX3_failByDue_40 : decode cX3_failByDue 40 = .ok (.iconst 3, 1) := by decide +kernel
theorem dX3_failByDue_41 : decode cX3_failByDue 41 = .ok (.invokevirtual 127, 3) := by decide +kernel
theorem dX3_failByDue_44 : decode cX3_failByDue 44 = .ok (.return_, 1) := by decide +kernel
theorem dX3_tryThoseOut_0 : decode cX3_tryThoseOut 0 = .ok (.iconst 0, 1) := by decide +kernel
theorem dX3_tryThoseOut_1 : decode cX3_tryThoseOut 1 = .ok (.istore_n 1, 1) := by decide +kernel
theorem dX3_tryThoseOut_2 : decode cX3_tryThoseOut 2 = .ok (.iload_n 1, 1) := by decide +kernel
theorem dX3_tryThoseOut_3 : decode cX3_tryThoseOut 3 = .ok (.aload_n 0, 1) := by decide +kernel
theorem dX3_tryThoseOut_4 : decode cX3_tryThoseOut 4 = .ok (.getfield 10, 3) := by decide +kernel
theorem dX3_tryThoseOut_7 : decode cX3_tryThoseOut 7 = .ok (.invokevirtual 43, 3) := by decide +kernel
theorem dX3_tryThoseOut_10 : decode cX3_tryThoseOut 10 = .ok (.if_icmp .ge 45, 3) := by decide +kernel
theorem dX3_tryThoseOut_13 : decode cX3_tryThoseOut 13 = .ok (.aload_n 0, 1) := by decide +kernel
theorem dX3_tryThoseOut_14 : decode cX3_tryThoseOut 14 = .ok (.getfield 10, 3) := by decide +kernel
theorem dX3_tryThoseOut_17 : decode cX3_tryThoseOut 17 = .ok (.iload_n 1, 1) := by decide +kernel
theorem dX3_tryThoseOut_18 : decode cX3_tryThoseOut 18 = .ok (.invokevirtual 151, 3) := by decide +kernel
theorem dX3_tryThoseOut_21 : decode cX3_tryThoseOut 21 = .ok (.checkcast 47, 3) := by decide +kernel
theorem dX3_tryThoseOut_24 : decode cX3_tryThoseOut 24 = .ok (.astore_n 2, 1) := by decide +kernel
theorem dX3_tryThoseOut_25 : decode cX3_tryThoseOut 25 = .ok (.aload_n 2, 1) := by decide +kernel
theorem dX3_tryThoseOut_26 : decode cX3_tryThoseOut 26 = .ok (.getfield 63, 3) := by decide +kernel
theorem dX3_tryThoseOut_29 : decode cX3_tryThoseOut 29 = .ok (.iconst 1, 1) := by decide +kernel
theorem dX3_tryThoseOut_30 : decode cX3_tryThoseOut 30 = .ok (.if_icmp .ne 19, 3) := by decide +kernel
theorem dX3_tryThoseOut_33 : decode cX3_tryThoseOut 33 = .ok (.aload_n 2, 1) := by decide +kernel
theorem dX3_tryThoseOut_34 : decode cX3_tryThoseOut 34 = .ok (.getfield 306, 3) := by decide +kernel
theorem dX3_tryThoseOut_37 : decode cX3_tryThoseOut 37 = .ok (.aload_n 0, 1) := by decide +kernel
theorem dX3_tryThoseOut_38 : decode cX3_tryThoseOut 38 = .ok (.getfield 95, 3) := by decide +kernel
theorem dX3_tryThoseOut_41 : decode cX3_tryThoseOut 41 = .ok (.if_icmp .ne 8, 3) := by decide +kernel
theorem dX3_tryThoseOut_44 : decode cX3_tryThoseOut 44 = .ok (.aload_n 2, 1) := by decide +kernel
theorem dX3_tryThoseOut_45 : decode cX3_tryThoseOut 45 = .ok (.iconst 2, 1) := by decide +kernel
theorem dX3_tryThoseOut_46 : decode cX3_tryThoseOut 46 = .ok (.putfield 63, 3) := by decide +kernel
theorem dX3_tryThoseOut_49 : decode cX3_tryThoseOut 49 = .ok (.iinc 1 1, 3) := by decide +kernel
theorem dX3_tryThoseOut_52 : decode cX3_tryThoseOut 52 = .ok (.goto (-50), 3) := by decide +kernel
theorem dX3_tryThoseOut_55 : decode cX3_tryThoseOut 55 = .ok (.return_, 1) := by decide +kernel
theorem dX3_hedgeSlow_0 : decode cX3_hedgeSlow 0 = .ok (.aload_n 0, 1) := by decide +kernel
theorem dX3_hedgeSlow_1 : decode cX3_hedgeSlow 1 = .ok (.getfield 89, 3) := by decide +kernel
theorem dX3_hedgeSlow_4 : decode cX3_hedgeSlow 4 = .ok (.ifCond .ne 4, 3) := by decide +kernel
theorem dX3_hedgeSlow_7 : decode cX3_hedgeSlow 7 = .ok (.return_, 1) := by decide +kernel
theorem dX3_hedgeSlow_8 : decode cX3_hedgeSlow 8 = .ok (.iconst 0, 1) := by decide +kernel
theorem dX3_hedgeSlow_9 : decode cX3_hedgeSlow 9 = .ok (.istore_n 1, 1) := by decide +kernel
theorem dX3_hedgeSlow_10 : decode cX3_hedgeSlow 10 = .ok (.iload_n 1, 1) := by decide +kernel
theorem dX3_hedgeSlow_11 : decode cX3_hedgeSlow 11 = .ok (.aload_n 0, 1) := by decide +kernel
theorem dX3_hedgeSlow_12 : decode cX3_hedgeSlow 12 = .ok (.getfield 19, 3) := by decide +kernel
theorem dX3_hedgeSlow_15 : decode cX3_hedgeSlow 15 = .ok (.invokevirtual 43, 3) := by decide +kernel
theorem dX3_hedgeSlow_18 : decode cX3_hedgeSlow 18 = .ok (.if_icmp .ge 106, 3) := by decide +kernel
theorem dX3_hedgeSlow_21 : decode cX3_hedgeSlow 21 = .ok (.aload_n 0, 1) := by decide +kernel
theorem dX3_hedgeSlow_22 : decode cX3_hedgeSlow 22 = .ok (.getfield 19, 3) := by decide +kernel
theorem dX3_hedgeSlow_25 : decode cX3_hedgeSlow 25 = .ok (.iload_n 1, 1) := by decide +kernel
theorem dX3_hedgeSlow_26 : decode cX3_hedgeSlow 26 = .ok (.invokevirtual 151, 3) := by decide +kernel
theorem dX3_hedgeSlow_29 : decode cX3_hedgeSlow 29 = .ok (.checkcast 93, 3) := by decide +kernel
theorem dX3_hedgeSlow_32 : decode cX3_hedgeSlow 32 = .ok (.astore_n 2, 1) := by decide +kernel
theorem dX3_hedgeSlow_33 : decode cX3_hedgeSlow 33 = .ok (.aload_n 2, 1) := by decide +kernel
theorem dX3_hedgeSlow_34 : decode cX3_hedgeSlow 34 = .ok (.getfield 251, 3) := by decide +kernel
theorem dX3_hedgeSlow_37 : decode cX3_hedgeSlow 37 = .ok (.ifnonnull 10, 3) := by decide +kernel
theorem dX3_hedgeSlow_40 : decode cX3_hedgeSlow 40 = .ok (.aload_n 2, 1) := by decide +kernel
theorem dX3_hedgeSlow_41 : decode cX3_hedgeSlow 41 = .ok (.getfield 247, 3) := by decide +kernel
theorem dX3_hedgeSlow_44 : decode cX3_hedgeSlow 44 = .ok (.goto 4, 3) := by decide +kernel
theorem dX3_hedgeSlow_47 : decode cX3_hedgeSlow 47 = .ok (.aconst_null, 1) := by decide +kernel
theorem dX3_hedgeSlow_48 : decode cX3_hedgeSlow 48 = .ok (.astore_n 3, 1) := by decide +kernel
theorem dX3_hedgeSlow_49 : decode cX3_hedgeSlow 49 = .ok (.aload_n 3, 1) := by decide +kernel
theorem dX3_hedgeSlow_50 : decode cX3_hedgeSlow 50 = .ok (.ifnull 68, 3) := by decide +kernel
theorem dX3_hedgeSlow_53 : decode cX3_hedgeSlow 53 = .ok (.aload_n 2, 1) := by decide +kernel
theorem dX3_hedgeSlow_54 : decode cX3_hedgeSlow 54 = .ok (.getfield 284, 3) := by decide +kernel
theorem dX3_hedgeSlow_57 : decode cX3_hedgeSlow 57 = .ok (.ifCond .eq 61, 3) := by decide +kernel
theorem dX3_hedgeSlow_60 : decode cX3_hedgeSlow 60 = .ok (.aload_n 3, 1) := by decide +kernel
theorem dX3_hedgeSlow_61 : decode cX3_hedgeSlow 61 = .ok (.getfield 309, 3) := by decide +kernel
theorem dX3_hedgeSlow_64 : decode cX3_hedgeSlow 64 = .ok (.aload_n 0, 1) := by decide +kernel
theorem dX3_hedgeSlow_65 : decode cX3_hedgeSlow 65 = .ok (.getfield 89, 3) := by decide +kernel
theorem dX3_hedgeSlow_68 : decode cX3_hedgeSlow 68 = .ok (.iadd, 1) := by decide +kernel
theorem dX3_hedgeSlow_69 : decode cX3_hedgeSlow 69 = .ok (.aload_n 0, 1) := by decide +kernel
theorem dX3_hedgeSlow_70 : decode cX3_hedgeSlow 70 = .ok (.getfield 95, 3) := by decide +kernel
theorem dX3_hedgeSlow_73 : decode cX3_hedgeSlow 73 = .ok (.if_icmp .eq 6, 3) := by decide +kernel
theorem dX3_hedgeSlow_76 : decode cX3_hedgeSlow 76 = .ok (.goto 42, 3) := by decide +kernel
theorem dX3_hedgeSlow_79 : decode cX3_hedgeSlow 79 = .ok (.aload_n 0, 1) := by decide +kernel
theorem dX3_hedgeSlow_80 : decode cX3_hedgeSlow 80 = .ok (.aload_n 2, 1) := by decide +kernel
theorem dX3_hedgeSlow_81 : decode cX3_hedgeSlow 81 = .ok (.getfield 202, 3) := by decide +kernel
theorem dX3_hedgeSlow_84 : decode cX3_hedgeSlow 84 = .ok (.iconst (-1), 1) := by decide +kernel
theorem dX3_hedgeSlow_85 : decode cX3_hedgeSlow 85 = .ok (.invokevirtual 179, 3) := by decide +kernel
theorem dX3_hedgeSlow_88 : decode cX3_hedgeSlow 88 = .ok (.astore 4, 2) := by decide +kernel
theorem dX3_hedgeSlow_90 : decode cX3_hedgeSlow 90 = .ok (.aload 4, 2) := by decide +kernel
theorem dX3_hedgeSlow_92 : decode cX3_hedgeSlow 92 = .ok (.ifnull 26, 3) := by decide +kernel
theorem dX3_hedgeSlow_95 : decode cX3_hedgeSlow 95 = .ok (.aload_n 2, 1) := by decide +kernel
theorem dX3_hedgeSlow_96 : decode cX3_hedgeSlow 96 = .ok (.aload 4, 2) := by decide +kernel
theorem dX3_hedgeSlow_98 : decode cX3_hedgeSlow 98 = .ok (.aload_n 0, 1) := by decide +kernel
theorem dX3_hedgeSlow_99 : decode cX3_hedgeSlow 99 = .ok (.getfield 95, 3) := by decide +kernel
theorem dX3_hedgeSlow_102 : decode cX3_hedgeSlow 102 = .ok (.invokevirtual 209, 3) := by decide +kernel
theorem dX3_hedgeSlow_105 : decode cX3_hedgeSlow 105 = .ok (.invokevirtual 213, 3) := by decide +kernel
theorem dX3_hedgeSlow_108 : decode cX3_hedgeSlow 108 = .ok (.aload_n 0, 1) := by decide +kernel
theorem dX3_hedgeSlow_109 : decode cX3_hedgeSlow 109 = .ok (.dup, 1) := by decide +kernel
theorem dX3_hedgeSlow_110 : decode cX3_hedgeSlow 110 = .ok (.getfield 167, 3) := by decide +kernel
theorem dX3_hedgeSlow_113 : decode cX3_hedgeSlow 113 = .ok (.iconst 1, 1) := by decide +kernel
theorem dX3_hedgeSlow_114 : decode cX3_hedgeSlow 114 = .ok (.iadd, 1) := by decide +kernel
theorem dX3_hedgeSlow_115 : decode cX3_hedgeSlow 115 = .ok (.putfield 167, 3) := by decide +kernel
theorem dX3_hedgeSlow_118 : decode cX3_hedgeSlow 118 = .ok (.iinc 1 1, 3) := by decide +kernel
theorem dX3_hedgeSlow_121 : decode cX3_hedgeSlow 121 = .ok (.goto (-111), 3) := by decide +kernel
theorem dX3_hedgeSlow_124 : decode cX3_hedgeSlow 124 = .ok (.return_, 1) := by decide +kernel
theorem dX3_askQueued_0 : decode cX3_askQueued 0 = .ok (.aload_n 0, 1) := by decide +kernel
theorem dX3_askQueued_1 : decode cX3_askQueued 1 = .ok (.getfield 22, 3) := by decide +kernel
theorem dX3_askQueued_4 : decode cX3_askQueued 4 = .ok (.invokevirtual 43, 3) := by decide +kernel
theorem dX3_askQueued_7 : decode cX3_askQueued 7 = .ok (.istore_n 1, 1) := by decide +kernel
theorem dX3_askQueued_8 : decode cX3_askQueued 8 = .ok (.iconst 0, 1) := by decide +kernel
theorem dX3_askQueued_9 : decode cX3_askQueued 9 = .ok (.istore_n 2, 1) := by decide +kernel
theorem dX3_askQueued_10 : decode cX3_askQueued 10 = .ok (.iconst 0, 1) := by decide +kernel
theorem dX3_askQueued_11 : decode cX3_askQueued 11 = .ok (.istore_n 3, 1) := by decide +kernel
theorem dX3_askQueued_12 : decode cX3_askQueued 12 = .ok (.iload_n 3, 1) := by decide +kernel
theorem dX3_askQueued_13 : decode cX3_askQueued 13 = .ok (.iload_n 1, 1) := by decide +kernel
theorem dX3_askQueued_14 : decode cX3_askQueued 14 = .ok (.if_icmp .ge 53, 3) := by decide +kernel
theorem dX3_askQueued_17 : decode cX3_askQueued 17 = .ok (.iload_n 2, 1) := by decide +kernel
theorem dX3_askQueued_18 : decode cX3_askQueued 18 = .ok (.aload_n 0, 1) := by decide +kernel
theorem dX3_askQueued_19 : decode cX3_askQueued 19 = .ok (.getfield 22, 3) := by decide +kernel
theorem dX3_askQueued_22 : decode cX3_askQueued 22 = .ok (.invokevirtual 43, 3) := by decide +kernel
theorem dX3_askQueued_25 : decode cX3_askQueued 25 = .ok (.if_icmp .ge 42, 3) := by decide +kernel
theorem dX3_askQueued_28 : decode cX3_askQueued 28 = .ok (.aload_n 0, 1) := by decide +kernel
theorem dX3_askQueued_29 : decode cX3_askQueued 29 = .ok (.aload_n 0, 1) := by decide +kernel
theorem dX3_askQueued_30 : decode cX3_askQueued 30 = .ok (.getfield 22, 3) := by decide +kernel
theorem dX3_askQueued_33 : decode cX3_askQueued 33 = .ok (.iload_n 2, 1) := by decide +kernel
theorem dX3_askQueued_34 : decode cX3_askQueued 34 = .ok (.invokevirtual 151, 3) := by decide +kernel
theorem dX3_askQueued_37 : decode cX3_askQueued 37 = .ok (.checkcast 93, 3) := by decide +kernel
theorem dX3_askQueued_40 : decode cX3_askQueued 40 = .ok (.invokevirtual 101, 3) := by decide +kernel
theorem dX3_askQueued_43 : decode cX3_askQueued 43 = .ok (.ifCond .eq 15, 3) := by decide +kernel
theorem dX3_askQueued_46 : decode cX3_askQueued 46 = .ok (.aload_n 0, 1) := by decide +kernel
theorem dX3_askQueued_47 : decode cX3_askQueued 47 = .ok (.getfield 22, 3) := by decide +kernel
theorem dX3_askQueued_50 : decode cX3_askQueued 50 = .ok (.iload_n 2, 1) := by decide +kernel
theorem dX3_askQueued_51 : decode cX3_askQueued 51 = .ok (.invokevirtual 223, 3) := by decide +kernel
theorem dX3_askQueued_54 : decode cX3_askQueued 54 = .ok (.pop, 1) := by decide +kernel
theorem dX3_askQueued_55 : decode cX3_askQueued 55 = .ok (.goto 6, 3) := by decide +kernel
theorem dX3_askQueued_58 : decode cX3_askQueued 58 = .ok (.iinc 2 1, 3) := by decide +kernel
theorem dX3_askQueued_61 : decode cX3_askQueued 61 = .ok (.iinc 3 1, 3) := by decide +kernel
theorem dX3_askQueued_64 : decode cX3_askQueued 64 = .ok (.goto (-52), 3) := by decide +kernel
theorem dX3_askQueued_67 : decode cX3_askQueued 67 = .ok (.return_, 1) := by decide +kernel
theorem dX3_letDrainedGo_0 : decode cX3_letDrainedGo 0 = .ok (.iconst 0, 1) := by decide +kernel
theorem dX3_letDrainedGo_1 : decode cX3_letDrainedGo 1 = .ok (.istore_n 1, 1) := by decide +kernel
theorem dX3_letDrainedGo_2 : decode cX3_letDrainedGo 2 = .ok (.iload_n 1, 1) := by decide +kernel
theorem dX3_letDrainedGo_3 : decode cX3_letDrainedGo 3 = .ok (.aload_n 0, 1) := by decide +kernel
theorem dX3_letDrainedGo_4 : decode cX3_letDrainedGo 4 = .ok (.getfield 10, 3) := by decide +kernel
theorem dX3_letDrainedGo_7 : decode cX3_letDrainedGo 7 = .ok (.invokevirtual 43, 3) := by decide +kernel
theorem dX3_letDrainedGo_10 : decode cX3_letDrainedGo 10 = .ok (.if_icmp .ge 41, 3) := by decide +kernel
theorem dX3_letDrainedGo_13 : decode cX3_letDrainedGo 13 = .ok (.aload_n 0, 1) := by decide +kernel
theorem dX3_letDrainedGo_14 : decode cX3_letDrainedGo 14 = .ok (.getfield 10, 3) := by decide +kernel
theorem dX3_letDrainedGo_17 : decode cX3_letDrainedGo 17 = .ok (.iload_n 1, 1) := by decide +kernel
theorem dX3_letDrainedGo_18 : decode cX3_letDrainedGo 18 = .ok (.invokevirtual 151, 3) := by decide +kernel
theorem dX3_letDrainedGo_21 : decode cX3_letDrainedGo 21 = .ok (.checkcast 47, 3) := by decide +kernel
theorem dX3_letDrainedGo_24 : decode cX3_letDrainedGo 24 = .ok (.astore_n 2, 1) := by decide +kernel
theorem dX3_letDrainedGo_25 : decode cX3_letDrainedGo 25 = .ok (.aload_n 2, 1) := by decide +kernel
theorem dX3_letDrainedGo_26 : decode cX3_letDrainedGo 26 = .ok (.getfield 63, 3) := by decide +kernel
theorem dX3_letDrainedGo_29 : decode cX3_letDrainedGo 29 = .ok (.iconst 3, 1) := by decide +kernel
theorem dX3_letDrainedGo_30 : decode cX3_letDrainedGo 30 = .ok (.if_icmp .ne 15, 3) := by decide +kernel
theorem dX3_letDrainedGo_33 : decode cX3_letDrainedGo 33 = .ok (.aload_n 2, 1) := by decide +kernel
theorem dX3_letDrainedGo_34 : decode cX3_letDrainedGo 34 = .ok (.getfield 80, 3) := by decide +kernel
theorem dX3_letDrainedGo_37 : decode cX3_letDrainedGo 37 = .ok (.ifCond .ne 8, 3) := by decide +kernel
theorem dX3_letDrainedGo_40 : decode cX3_letDrainedGo 40 = .ok (.aload_n 2, 1) := by decide +kernel
theorem dX3_letDrainedGo_41 : decode cX3_letDrainedGo 41 = .ok (.iconst 4, 1) := by decide +kernel
theorem dX3_letDrainedGo_42 : decode cX3_letDrainedGo 42 = .ok (.putfield 63, 3) := by decide +kernel
theorem dX3_letDrainedGo_45 : decode cX3_letDrainedGo 45 = .ok (.iinc 1 1, 3) := by decide +kernel
theorem dX3_letDrainedGo_48 : decode cX3_letDrainedGo 48 = .ok (.goto (-46), 3) := by decide +kernel
theorem dX3_letDrainedGo_51 : decode cX3_letDrainedGo 51 = .ok (.return_, 1) := by decide +kernel
