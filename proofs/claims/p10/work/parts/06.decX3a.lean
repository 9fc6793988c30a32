theorem dX3_init_0 : decode cX3_init 0 = .ok (.aload_n 0, 1) := by decide +kernel
theorem dX3_init_1 : decode cX3_init 1 = .ok (.invokespecial 1, 3) := by decide +kernel
theorem dX3_init_4 : decode cX3_init 4 = .ok (.aload_n 0, 1) := by decide +kernel
theorem dX3_init_5 : decode cX3_init 5 = .ok (.new 7, 3) := by decide +kernel
theorem dX3_init_8 : decode cX3_init 8 = .ok (.dup, 1) := by decide +kernel
theorem dX3_init_9 : decode cX3_init 9 = .ok (.invokespecial 9, 3) := by decide +kernel
theorem dX3_init_12 : decode cX3_init 12 = .ok (.putfield 10, 3) := by decide +kernel
theorem dX3_init_15 : decode cX3_init 15 = .ok (.aload_n 0, 1) := by decide +kernel
theorem dX3_init_16 : decode cX3_init 16 = .ok (.new 7, 3) := by decide +kernel
theorem dX3_init_19 : decode cX3_init 19 = .ok (.dup, 1) := by decide +kernel
theorem dX3_init_20 : decode cX3_init 20 = .ok (.invokespecial 9, 3) := by decide +kernel
theorem dX3_init_23 : decode cX3_init 23 = .ok (.putfield 16, 3) := by decide +kernel
theorem dX3_init_26 : decode cX3_init 26 = .ok (.aload_n 0, 1) := by decide +kernel
theorem dX3_init_27 : decode cX3_init 27 = .ok (.new 7, 3) := by decide +kernel
theorem dX3_init_30 : decode cX3_init 30 = .ok (.dup, 1) := by decide +kernel
theorem dX3_init_31 : decode cX3_init 31 = .ok (.invokespecial 9, 3) := by decide +kernel
theorem dX3_init_34 : decode cX3_init 34 = .ok (.putfield 19, 3) := by decide +kernel
theorem dX3_init_37 : decode cX3_init 37 = .ok (.aload_n 0, 1) := by decide +kernel
theorem dX3_init_38 : decode cX3_init 38 = .ok (.new 7, 3) := by decide +kernel
theorem dX3_init_41 : decode cX3_init 41 = .ok (.dup, 1) := by decide +kernel
theorem dX3_init_42 : decode cX3_init 42 = .ok (.invokespecial 9, 3) := by decide +kernel
theorem dX3_init_45 : decode cX3_init 45 = .ok (.putfield 22, 3) := by decide +kernel
theorem dX3_init_48 : decode cX3_init 48 = .ok (.aload_n 0, 1) := by decide +kernel
theorem dX3_init_49 : decode cX3_init 49 = .ok (.bipush 7, 2) := by decide +kernel
theorem dX3_init_51 : decode cX3_init 51 = .ok (.newarray .int, 2) := by decide +kernel
theorem dX3_init_53 : decode cX3_init 53 = .ok (.putfield 25, 3) := by decide +kernel
theorem dX3_init_56 : decode cX3_init 56 = .ok (.aload_n 0, 1) := by decide +kernel
theorem dX3_init_57 : decode cX3_init 57 = .ok (.iconst 0, 1) := by decide +kernel
theorem dX3_init_58 : decode cX3_init 58 = .ok (.putfield 29, 3) := by decide +kernel
theorem dX3_init_61 : decode cX3_init 61 = .ok (.aload_n 0, 1) := by decide +kernel
theorem dX3_init_62 : decode cX3_init 62 = .ok (.iconst 3, 1) := by decide +kernel
theorem dX3_init_63 : decode cX3_init 63 = .ok (.putfield 33, 3) := by decide +kernel
theorem dX3_init_66 : decode cX3_init 66 = .ok (.aload_n 0, 1) := by decide +kernel
theorem dX3_init_67 : decode cX3_init 67 = .ok (.bipush 20, 2) := by decide +kernel
theorem dX3_init_69 : decode cX3_init 69 = .ok (.putfield 36, 3) := by decide +kernel
theorem dX3_init_72 : decode cX3_init 72 = .ok (.return_, 1) := by decide +kernel
theorem dX3_server_0 : decode cX3_server 0 = .ok (.iload_n 2, 1) := by decide +kernel
theorem dX3_server_1 : decode cX3_server 1 = .ok (.ifCond .lt 8, 3) := by decide +kernel
theorem dX3_server_4 : decode cX3_server 4 = .ok (.iload_n 2, 1) := by decide +kernel
theorem dX3_server_5 : decode cX3_server 5 = .ok (.iconst 4, 1) := by decide +kernel
theorem dX3_server_6 : decode cX3_server 6 = .ok (.if_icmp .lt 9, 3) := by decide +kernel
theorem dX3_server_9 : decode cX3_server 9 = .ok (.aload_n 0, 1) := by decide +kernel
theorem dX3_server_10 : decode cX3_server 10 = .ok (.iconst (-1), 1) := by decide +kernel
theorem dX3_server_11 : decode cX3_server 11 = .ok (.invokevirtual 39, 3) := by decide +kernel
theorem dX3_server_14 : decode cX3_server 14 = .ok (.ireturn, 1) := by decide +kernel
theorem dX3_server_15 : decode cX3_server 15 = .ok (.iload_n 1, 1) := by decide +kernel
theorem dX3_server_16 : decode cX3_server 16 = .ok (.iconst 1, 1) := by decide +kernel
theorem dX3_server_17 : decode cX3_server 17 = .ok (.if_icmp .lt 19, 3) := by decide +kernel
theorem dX3_server_20 : decode cX3_server 20 = .ok (.iload_n 3, 1) := by decide +kernel
theorem dX3_server_21 : decode cX3_server 21 = .ok (.iconst 1, 1) := by decide +kernel
theorem dX3_server_22 : decode cX3_server 22 = .ok (.if_icmp .lt 14, 3) := by decide +kernel
theorem dX3_server_25 : decode cX3_server 25 = .ok (.iload 4, 2) := by decide +kernel
theorem dX3_server_27 : decode cX3_server 27 = .ok (.iconst 1, 1) := by decide +kernel
theorem dX3_server_28 : decode cX3_server 28 = .ok (.if_icmp .lt 8, 3) := by decide +kernel
theorem dX3_server_31 : decode cX3_server 31 = .ok (.iload 5, 2) := by decide +kernel
theorem dX3_server_33 : decode cX3_server 33 = .ok (.ifCond .ge 10, 3) := by decide +kernel
theorem dX3_server_36 : decode cX3_server 36 = .ok (.aload_n 0, 1) := by decide +kernel
theorem dX3_server_37 : decode cX3_server 37 = .ok (.bipush (-4), 2) := by decide +kernel
theorem dX3_server_39 : decode cX3_server 39 = .ok (.invokevirtual 39, 3) := by decide +kernel
theorem dX3_server_42 : decode cX3_server 42 = .ok (.ireturn, 1) := by decide +kernel
theorem dX3_server_43 : decode cX3_server 43 = .ok (.iload_n 1, 1) := by decide +kernel
theorem dX3_server_44 : decode cX3_server 44 = .ok (.bipush 100, 2) := by decide +kernel
theorem dX3_server_46 : decode cX3_server 46 = .ok (.if_icmp .gt 24, 3) := by decide +kernel
theorem dX3_server_49 : decode cX3_server 49 = .ok (.iload_n 3, 1) := by decide +kernel
theorem dX3_server_50 : decode cX3_server 50 = .ok (.bipush 20, 2) := by decide +kernel
theorem dX3_server_52 : decode cX3_server 52 = .ok (.if_icmp .gt 18, 3) := by decide +kernel
theorem dX3_server_55 : decode cX3_server 55 = .ok (.iload 4, 2) := by decide +kernel
theorem dX3_server_57 : decode cX3_server 57 = .ok (.sipush 200, 3) := by decide +kernel
theorem dX3_server_60 : decode cX3_server 60 = .ok (.if_icmp .gt 10, 3) := by decide +kernel
theorem dX3_server_63 : decode cX3_server 63 = .ok (.iload 5, 2) := by decide +kernel
theorem dX3_server_65 : decode cX3_server 65 = .ok (.bipush 20, 2) := by decide +kernel
theorem dX3_server_67 : decode cX3_server 67 = .ok (.if_icmp .le 10, 3) := by decide +kernel
theorem dX3_server_70 : decode cX3_server 70 = .ok (.aload_n 0, 1) := by decide +kernel
theorem dX3_server_71 : decode cX3_server 71 = .ok (.bipush (-6), 2) := by decide +kernel
theorem dX3_server_73 : decode cX3_server 73 = .ok (.invokevirtual 39, 3) := by decide +kernel
theorem dX3_server_76 : decode cX3_server 76 = .ok (.ireturn, 1) := by decide +kernel
theorem dX3_server_77 : decode cX3_server 77 = .ok (.aload_n 0, 1) := by decide +kernel
theorem dX3_server_78 : decode cX3_server 78 = .ok (.getfield 10, 3) := by decide +kernel
theorem dX3_server_81 : decode cX3_server 81 = .ok (.invokevirtual 43, 3) := by decide +kernel
theorem dX3_server_84 : decode cX3_server 84 = .ok (.bipush 8, 2) := by decide +kernel
theorem dX3_server_86 : decode cX3_server 86 = .ok (.if_icmp .lt 10, 3) := by decide +kernel
theorem dX3_server_89 : decode cX3_server 89 = .ok (.aload_n 0, 1) := by decide +kernel
theorem dX3_server_90 : decode cX3_server 90 = .ok (.bipush (-6), 2) := by decide +kernel
theorem dX3_server_92 : decode cX3_server 92 = .ok (.invokevirtual 39, 3) := by decide +kernel
theorem dX3_server_95 : decode cX3_server 95 = .ok (.ireturn, 1) := by decide +kernel
theorem dX3_server_96 : decode cX3_server 96 = .ok (.new 47, 3) := by decide +kernel
theorem dX3_server_99 : decode cX3_server 99 = .ok (.dup, 1) := by decide +kernel
theorem dX3_server_100 : decode cX3_server 100 = .ok (.aload_n 0, 1) := by decide +kernel
theorem dX3_server_101 : decode cX3_server 101 = .ok (.getfield 10, 3) := by decide +kernel
theorem dX3_server_104 : decode cX3_server 104 = .ok (.invokevirtual 43, 3) := by decide +kernel
theorem dX3_server_107 : decode cX3_server 107 = .ok (.iload_n 1, 1) := by decide +kernel
theorem dX3_server_108 : decode cX3_server 108 = .ok (.iload_n 2, 1) := by decide +kernel
theorem dX3_server_109 : decode cX3_server 109 = .ok (.iload_n 3, 1) := by decide +kernel
theorem dX3_server_110 : decode cX3_server 110 = .ok (.iload 4, 2) := by decide +kernel
theorem dX3_server_112 : decode cX3_server 112 = .ok (.iload 5, 2) := by decide +kernel
theorem dX3_server_114 : decode cX3_server 114 = .ok (.invokespecial 49, 3) := by decide +kernel
theorem dX3_server_117 : decode cX3_server 117 = .ok (.astore 6, 2) := by decide +kernel
theorem dX3_server_119 : decode cX3_server 119 = .ok (.aload_n 0, 1) := by decide +kernel
theorem dX3_server_120 : decode cX3_server 120 = .ok (.getfield 10, 3) := by decide +kernel
theorem dX3_server_123 : decode cX3_server 123 = .ok (.aload 6, 2) := by decide +kernel
theorem dX3_server_125 : decode cX3_server 125 = .ok (.invokevirtual 52, 3) := by decide +kernel
theorem dX3_server_128 : decode cX3_server 128 = .ok (.pop, 1) := by decide +kernel
theorem dX3_server_129 : decode cX3_server 129 = .ok (.aload 6, 2) := by decide +kernel
theorem dX3_server_131 : decode cX3_server 131 = .ok (.getfield 56, 3) := by decide +kernel
theorem dX3_server_134 : decode cX3_server 134 = .ok (.ireturn, 1) := by decide +kernel
theorem dX3_set_0 : decode cX3_set 0 = .ok (.aload_n 0, 1) := by decide +kernel
theorem dX3_set_1 : decode cX3_set 1 = .ok (.iload_n 1, 1) := by decide +kernel
theorem dX3_set_2 : decode cX3_set 2 = .ok (.invokevirtual 59, 3) := by decide +kernel
theorem dX3_set_5 : decode cX3_set 5 = .ok (.astore 4, 2) := by decide +kernel
theorem dX3_set_7 : decode cX3_set 7 = .ok (.aload 4, 2) := by decide +kernel
theorem dX3_set_9 : decode cX3_set 9 = .ok (.ifnonnull 9, 3) := by decide +kernel
theorem dX3_set_12 : decode cX3_set 12 = .ok (.aload_n 0, 1) := by decide +kernel
theorem dX3_set_13 : decode cX3_set 13 = .ok (.iconst (-1), 1) := by decide +kernel
theorem dX3_set_14 : decode cX3_set 14 = .ok (.invokevirtual 39, 3) := by decide +kernel
theorem dX3_set_17 : decode cX3_set 17 = .ok (.ireturn, 1) := by decide +kernel
theorem dX3_set_18 : decode cX3_set 18 = .ok (.iload_n 2, 1) := by decide +kernel
theorem dX3_set_19 : decode cX3_set 19 = .ok (.ifCond .lt 8, 3) := by decide +kernel
theorem dX3_set_22 : decode cX3_set 22 = .ok (.iload_n 2, 1) := by decide +kernel
theorem dX3_set_23 : decode cX3_set 23 = .ok (.iconst 4, 1) := by decide +kernel
theorem dX3_set_24 : decode cX3_set 24 = .ok (.if_icmp .le 10, 3) := by decide +kernel
theorem dX3_set_27 : decode cX3_set 27 = .ok (.aload_n 0, 1) := by decide +kernel
theorem dX3_set_28 : decode cX3_set 28 = .ok (.bipush (-2), 2) := by decide +kernel
theorem dX3_set_30 : decode cX3_set 30 = .ok (.invokevirtual 39, 3) := by decide +kernel
theorem dX3_set_33 : decode cX3_set 33 = .ok (.ireturn, 1) := by decide +kernel
theorem dX3_set_34 : decode cX3_set 34 = .ok (.aload 4, 2) := by decide +kernel
theorem dX3_set_36 : decode cX3_set 36 = .ok (.getfield 63, 3) := by decide +kernel
theorem dX3_set_39 : decode cX3_set 39 = .ok (.iconst 4, 1) := by decide +kernel
theorem dX3_set_40 : decode cX3_set 40 = .ok (.if_icmp .ne 10, 3) := by decide +kernel
theorem dX3_set_43 : decode cX3_set 43 = .ok (.aload_n 0, 1) := by decide +kernel
theorem dX3_set_44 : decode cX3_set 44 = .ok (.bipush (-3), 2) := by decide +kernel
theorem dX3_set_46 : decode cX3_set 46 = .ok (.invokevirtual 39, 3) := by decide +kernel
theorem dX3_set_49 : decode cX3_set 49 = .ok (.ireturn, 1) := by decide +kernel
theorem dX3_set_50 : decode cX3_set 50 = .ok (.iload_n 3, 1) := by decide +kernel
theorem dX3_set_51 : decode cX3_set 51 = .ok (.iload_n 2, 1) := by decide +kernel
theorem dX3_set_52 : decode cX3_set 52 = .ok (.invokestatic 66, 3) := by decide +kernel
theorem dX3_set_55 : decode cX3_set 55 = .ok (.iload_n 2, 1) := by decide +kernel
theorem dX3_set_56 : decode cX3_set 56 = .ok (.invokestatic 69, 3) := by decide +kernel
theorem dX3_set_59 : decode cX3_set 59 = .ok (.invokestatic 72, 3) := by decide +kernel
theorem dX3_set_62 : decode cX3_set 62 = .ok (.istore 5, 2) := by decide +kernel
theorem dX3_set_64 : decode cX3_set 64 = .ok (.iload 5, 2) := by decide +kernel
theorem dX3_set_66 : decode cX3_set 66 = .ok (.ifCond .eq 12, 3) := by decide +kernel
theorem dX3_set_69 : decode cX3_set 69 = .ok (.aload_n 0, 1) := by decide +kernel
theorem dX3_set_70 : decode cX3_set 70 = .ok (.iload 5, 2) := by decide +kernel
theorem dX3_set_72 : decode cX3_set 72 = .ok (.invokevirtual 39, 3) := by decide +kernel
theorem dX3_set_75 : decode cX3_set 75 = .ok (.goto 10, 3) := by decide +kernel
theorem dX3_set_78 : decode cX3_set 78 = .ok (.aload 4, 2) := by decide +kernel
theorem dX3_set_80 : decode cX3_set 80 = .ok (.iload_n 2, 1) := by decide +kernel
theorem dX3_set_81 : decode cX3_set 81 = .ok (.iload_n 3, 1) := by decide +kernel
theorem dX3_set_82 : decode cX3_set 82 = .ok (.invokevirtual 76, 3) := by decide +kernel
theorem dX3_set_85 : decode cX3_set 85 = .ok (.ireturn, 1) := by decide +kernel
theorem dX3_drain_0 : decode cX3_drain 0 = .ok (.aload_n 0, 1) := by decide +kernel
theorem dX3_drain_1 : decode cX3_drain 1 = .ok (.iload_n 1, 1) := by decide +kernel
theorem dX3_drain_2 : decode cX3_drain 2 = .ok (.invokevirtual 59, 3) := by decide +kernel
theorem dX3_drain_5 : decode cX3_drain 5 = .ok (.astore_n 2, 1) := by decide +kernel
theorem dX3_drain_6 : decode cX3_drain 6 = .ok (.aload_n 2, 1) := by decide +kernel
theorem dX3_drain_7 : decode cX3_drain 7 = .ok (.ifnonnull 9, 3) := by decide +kernel
theorem dX3_drain_10 : decode cX3_drain 10 = .ok (.aload_n 0, 1) := by decide +kernel
theorem dX3_drain_11 : decode cX3_drain 11 = .ok (.iconst (-1), 1) := by decide +kernel
theorem dX3_drain_12 : decode cX3_drain 12 = .ok (.invokevirtual 39, 3) := by decide +kernel
theorem dX3_drain_15 : decode cX3_drain 15 = .ok (.ireturn, 1) := by decide +kernel
theorem dX3_drain_16 : decode cX3_drain 16 = .ok (.aload_n 2, 1) := by decide +kernel
theorem dX3_drain_17 : decode cX3_drain 17 = .ok (.getfield 63, 3) := by decide +kernel
theorem dX3_drain_20 : decode cX3_drain 20 = .ok (.iconst 3, 1) := by decide +kernel
theorem dX3_drain_21 : decode cX3_drain 21 = .ok (.if_icmp .eq 11, 3) := by decide +kernel
theorem dX3_drain_24 : decode cX3_drain 24 = .ok (.aload_n 2, 1) := by decide +kernel
theorem dX3_drain_25 : decode cX3_drain 25 = .ok (.getfield 63, 3) := by decide +kernel
theorem dX3_drain_28 : decode cX3_drain 28 = .ok (.iconst 4, 1) := by decide +kernel
theorem dX3_drain_29 : decode cX3_drain 29 = .ok (.if_icmp .ne 10, 3) := by decide +kernel
theorem dX3_drain_32 : decode cX3_drain 32 = .ok (.aload_n 0, 1) := by decide +kernel
theorem dX3_drain_33 : decode cX3_drain 33 = .ok (.bipush (-3), 2) := by decide +kernel
theorem dX3_drain_35 : decode cX3_drain 35 = .ok (.invokevirtual 39, 3) := by decide +kernel
theorem dX3_drain_38 : decode cX3_drain 38 = .ok (.ireturn, 1) := by decide +kernel
theorem dX3_drain_39 : decode cX3_drain 39 = .ok (.aload_n 2, 1) := by decide +kernel
theorem dX3_drain_40 : decode cX3_drain 40 = .ok (.aload_n 2, 1) := by decide +kernel
theorem dX3_drain_41 : decode cX3_drain 41 = .ok (.getfield 80, 3) := by decide +kernel
theorem dX3_drain_44 : decode cX3_drain 44 = .ok (.ifCond .ne 7, 3) := by decide +kernel
theorem dX3_drain_47 : decode cX3_drain 47 = .ok (.iconst 4, 1) := by decide +kernel
theorem dX3_drain_48 : decode cX3_drain 48 = .ok (.goto 4, 3) := by decide +kernel
theorem dX3_drain_51 : decode cX3_drain 51 = .ok (.iconst 3, 1) := by decide +kernel
theorem dX3_drain_52 : decode cX3_drain 52 = .ok (.putfield 63, 3) := by decide +kernel
theorem dX3_drain_55 : decode cX3_drain 55 = .ok (.aload_n 2, 1) := by decide +kernel
theorem dX3_drain_56 : decode cX3_drain 56 = .ok (.getfield 80, 3) := by decide +kernel
theorem dX3_drain_59 : decode cX3_drain 59 = .ok (.ireturn, 1) := by decide +kernel
theorem dX3_back_0 : decode cX3_back 0 = .ok (.aload_n 0, 1) := by decide +kernel
theorem dX3_back_1 : decode cX3_back 1 = .ok (.iload_n 1, 1) := by decide +kernel
theorem dX3_back_2 : decode cX3_back 2 = .ok (.invokevirtual 59, 3) := by decide +kernel
theorem dX3_back_5 : decode cX3_back 5 = .ok (.astore_n 2, 1) := by decide +kernel
theorem dX3_back_6 : decode cX3_back 6 = .ok (.aload_n 2, 1) := by decide +kernel
theorem dX3_back_7 : decode cX3_back 7 = .ok (.ifnonnull 9, 3) := by decide +kernel
theorem dX3_back_10 : decode cX3_back 10 = .ok (.aload_n 0, 1) := by decide +kernel
theorem dX3_back_11 : decode cX3_back 11 = .ok (.iconst (-1), 1) := by decide +kernel
theorem dX3_back_12 : decode cX3_back 12 = .ok (.invokevirtual 39, 3) := by decide +kernel
theorem dX3_back_15 : decode cX3_back 15 = .ok (.ireturn, 1) := by decide +kernel
theorem dX3_back_16 : decode cX3_back 16 = .ok (.aload_n 2, 1) := by decide +kernel
theorem dX3_back_17 : decode cX3_back 17 = .ok (.getfield 63, 3) := by decide +kernel
theorem dX3_back_20 : decode cX3_back 20 = .ok (.iconst 3, 1) := by decide +kernel
theorem dX3_back_21 : decode cX3_back 21 = .ok (.if_icmp .eq 18, 3) := by decide +kernel
theorem dX3_back_24 : decode cX3_back 24 = .ok (.aload_n 2, 1) := by decide +kernel
theorem dX3_back_25 : decode cX3_back 25 = .ok (.getfield 63, 3) := by decide +kernel
theorem dX3_back_28 : decode cX3_back 28 = .ok (.iconst 4, 1) := by decide +kernel
theorem dX3_back_29 : decode cX3_back 29 = .ok (.if_icmp .eq 10, 3) := by decide +kernel
theorem dX3_back_32 : decode cX3_back 32 = .ok (.aload_n 0, 1) := by decide +kernel
theorem dX3_back_33 : decode cX3_back 33 = .ok (.bipush (-3), 2) := by decide +kernel
theorem dX3_back_35 : decode cX3_back 35 = .ok (.invokevirtual 39, 3) := by decide +kernel
theorem dX3_back_38 : decode cX3_back 38 = .ok (.ireturn, 1) := by decide +kernel
theorem dX3_back_39 : decode cX3_back 39 = .ok (.aload_n 2, 1) := by decide +kernel
theorem dX3_back_40 : decode cX3_back 40 = .ok (.iconst 2, 1) := by decide +kernel
theorem dX3_back_41 : decode cX3_back 41 = .ok (.putfield 63, 3) := by decide +kernel
theorem dX3_back_44 : decode cX3_back 44 = .ok (.aload_n 2, 1) := by decide +kernel
theorem dX3_back_45 : decode cX3_back 45 = .ok (.iconst 0, 1) := by decide +kernel
theorem dX3_back_46 : decode cX3_back 46 = .ok (.putfield 83, 3) := by decide +kernel
theorem dX3_back_49 : decode cX3_back 49 = .ok (.aload_n 2, 1) := by decide +kernel
theorem dX3_back_50 : decode cX3_back 50 = .ok (.bipush 10, 2) := by decide +kernel
theorem dX3_back_52 : decode cX3_back 52 = .ok (.putfield 86, 3) := by decide +kernel
theorem dX3_back_55 : decode cX3_back 55 = .ok (.iconst 1, 1) := by decide +kernel
theorem dX3_back_56 : decode cX3_back 56 = .ok (.ireturn, 1) := by decide +kernel
theorem dX3_rule_0 : decode cX3_rule 0 = .ok (.iload_n 1, 1) := by decide +kernel
theorem dX3_rule_1 : decode cX3_rule 1 = .ok (.ifCond .lt 8, 3) := by decide +kernel
theorem dX3_rule_4 : decode cX3_rule 4 = .ok (.iload_n 1, 1) := by decide +kernel
theorem dX3_rule_5 : decode cX3_rule 5 = .ok (.iconst 3, 1) := by decide +kernel
theorem dX3_rule_6 : decode cX3_rule 6 = .ok (.if_icmp .le 9, 3) := by decide +kernel
theorem dX3_rule_9 : decode cX3_rule 9 = .ok (.aload_n 0, 1) := by decide +kernel
theorem dX3_rule_10 : decode cX3_rule 10 = .ok (.iconst (-1), 1) := by decide +kernel
theorem dX3_rule_11 : decode cX3_rule 11 = .ok (.invokevirtual 39, 3) := by decide +kernel
theorem dX3_rule_14 : decode cX3_rule 14 = .ok (.ireturn, 1) := by decide +kernel
theorem dX3_rule_15 : decode cX3_rule 15 = .ok (.aload_n 0, 1) := by decide +kernel
theorem dX3_rule_16 : decode cX3_rule 16 = .ok (.getfield 29, 3) := by decide +kernel
theorem dX3_rule_19 : decode cX3_rule 19 = .ok (.istore_n 2, 1) := by decide +kernel
theorem dX3_rule_20 : decode cX3_rule 20 = .ok (.aload_n 0, 1) := by decide +kernel
theorem dX3_rule_21 : decode cX3_rule 21 = .ok (.iload_n 1, 1) := by decide +kernel
theorem dX3_rule_22 : decode cX3_rule 22 = .ok (.putfield 29, 3) := by decide +kernel
theorem dX3_rule_25 : decode cX3_rule 25 = .ok (.iload_n 2, 1) := by decide +kernel
theorem dX3_rule_26 : decode cX3_rule 26 = .ok (.ireturn, 1) := by decide +kernel
theorem dX3_limit_0 : decode cX3_limit 0 = .ok (.iload_n 1, 1) := by decide +kernel
theorem dX3_limit_1 : decode cX3_limit 1 = .ok (.iconst 1, 1) := by decide +kernel
theorem dX3_limit_2 : decode cX3_limit 2 = .ok (.bipush 10, 2) := by decide +kernel
theorem dX3_limit_4 : decode cX3_limit 4 = .ok (.invokestatic 72, 3) := by decide +kernel
theorem dX3_limit_7 : decode cX3_limit 7 = .ok (.istore_n 2, 1) := by decide +kernel
theorem dX3_limit_8 : decode cX3_limit 8 = .ok (.iload_n 2, 1) := by decide +kernel
theorem dX3_limit_9 : decode cX3_limit 9 = .ok (.ifCond .eq 9, 3) := by decide +kernel
theorem dX3_limit_12 : decode cX3_limit 12 = .ok (.aload_n 0, 1) := by decide +kernel
theorem dX3_limit_13 : decode cX3_limit 13 = .ok (.iload_n 2, 1) := by decide +kernel
theorem dX3_limit_14 : decode cX3_limit 14 = .ok (.invokevirtual 39, 3) := by decide +kernel
theorem dX3_limit_17 : decode cX3_limit 17 = .ok (.ireturn, 1) := by decide +kernel
theorem dX3_limit_18 : decode cX3_limit 18 = .ok (.aload_n 0, 1) := by decide +kernel
theorem dX3_limit_19 : decode cX3_limit 19 = .ok (.getfield 33, 3) := by decide +kernel
theorem dX3_limit_22 : decode cX3_limit 22 = .ok (.istore_n 3, 1) := by decide +kernel
theorem dX3_limit_23 : decode cX3_limit 23 = .ok (.aload_n 0, 1) := by decide +kernel
theorem dX3_limit_24 : decode cX3_limit 24 = .ok (.iload_n 1, 1) := by decide +kernel
theorem dX3_limit_25 : decode cX3_limit 25 = .ok (.putfield 33, 3) := by decide +kernel
theorem dX3_limit_28 : decode cX3_limit 28 = .ok (.iload_n 3, 1) := by decide +kernel
theorem dX3_limit_29 : decode cX3_limit 29 = .ok (.ireturn, 1) := by decide +kernel
theorem dX3_budget_0 : decode cX3_budget 0 = .ok (.iload_n 1, 1) := by decide +kernel
theorem dX3_budget_1 : decode cX3_budget 1 = .ok (.iconst 0, 1) := by decide +kernel
theorem dX3_budget_2 : decode cX3_budget 2 = .ok (.bipush 100, 2) := by decide +kernel
theorem dX3_budget_4 : decode cX3_budget 4 = .ok (.invokestatic 72, 3) := by decide +kernel
theorem dX3_budget_7 : decode cX3_budget 7 = .ok (.istore_n 2, 1) := by decide +kernel
theorem dX3_budget_8 : decode cX3_budget 8 = .ok (.iload_n 2, 1) := by decide +kernel
theorem dX3_budget_9 : decode cX3_budget 9 = .ok (.ifCond .eq 9, 3) := by decide +kernel
theorem dX3_budget_12 : decode cX3_budget 12 = .ok (.aload_n 0, 1) := by decide +kernel
theorem dX3_budget_13 : decode cX3_budget 13 = .ok (.iload_n 2, 1) := by decide +kernel
theorem dX3_budget_14 : decode cX3_budget 14 = .ok (.invokevirtual 39, 3) := by decide +kernel
theorem dX3_budget_17 : decode cX3_budget 17 = .ok (.ireturn, 1) := by decide +kernel
theorem dX3_budget_18 : decode cX3_budget 18 = .ok (.aload_n 0, 1) := by decide +kernel
theorem dX3_budget_19 : decode cX3_budget 19 = .ok (.getfield 36, 3) := by decide +kernel
theorem dX3_budget_22 : decode cX3_budget 22 = .ok (.istore_n 3, 1) := by decide +kernel
theorem dX3_budget_23 : decode cX3_budget 23 = .ok (.aload_n 0, 1) := by decide +kernel
theorem dX3_budget_24 : decode cX3_budget 24 = .ok (.iload_n 1, 1) := by decide +kernel
theorem dX3_budget_25 : decode cX3_budget 25 = .ok (.putfield 36, 3) := by decide +kernel
theorem dX3_budget_28 : decode cX3_budget 28 = .ok (.iload_n 3, 1) := by decide +kernel
theorem dX3_budget_29 : decode cX3_budget 29 = .ok (.ireturn, 1) := by decide +kernel
theorem dX3_hedge_0 : decode cX3_hedge 0 = .ok (.iload_n 1, 1) := by decide +kernel
theorem dX3_hedge_1 : decode cX3_hedge 1 = .ok (.iconst 0, 1) := by decide +kernel
theorem dX3_hedge_2 : decode cX3_hedge 2 = .ok (.sipush 500, 3) := by decide +kernel
theorem dX3_hedge_5 : decode cX3_hedge 5 = .ok (.invokestatic 72, 3) := by decide +kernel
theorem dX3_hedge_8 : decode cX3_hedge 8 = .ok (.istore_n 2, 1) := by decide +kernel
theorem dX3_hedge_9 : decode cX3_hedge 9 = .ok (.iload_n 2, 1) := by decide +kernel
theorem dX3_hedge_10 : decode cX3_hedge 10 = .ok (.ifCond .eq 9, 3) := by decide +kernel
theorem dX3_hedge_13 : decode cX3_hedge 13 = .ok (.aload_n 0, 1) := by decide +kernel
theorem dX3_hedge_14 : decode cX3_hedge 14 = .ok (.iload_n 2, 1) := by decide +kernel
theorem dX3_hedge_15 : decode cX3_hedge 15 = .ok (.invokevirtual 39, 3) := by decide +kernel
theorem dX3_hedge_18 : decode cX3_hedge 18 = .ok (.ireturn, 1) := by decide +kernel
theorem dX3_hedge_19 : decode cX3_hedge 19 = .ok (.aload_n 0, 1) := by decide +kernel
theorem dX3_hedge_20 : decode cX3_hedge 20 = .ok (.getfield 89, 3) := by decide +kernel
theorem dX3_hedge_23 : decode cX3_hedge 23 = .ok (.istore_n 3, 1) := by decide +kernel
theorem dX3_hedge_24 : decode cX3_hedge 24 = .ok (.aload_n 0, 1) := by decide +kernel
theorem dX3_hedge_25 : decode cX3_hedge 25 = .ok (.iload_n 1, 1) := by decide +kernel
theorem dX3_hedge_26 : decode cX3_hedge 26 = .ok (.putfield 89, 3) := by decide +kernel
theorem dX3_hedge_29 : decode cX3_hedge 29 = .ok (.iload_n 3, 1) := by decide +kernel
theorem dX3_hedge_30 : decode cX3_hedge 30 = .ok (.ireturn, 1) := by decide +kernel
theorem dX3_call_0 : decode cX3_call 0 = .ok (.iload_n 1, 1) := by decide +kernel
theorem dX3_call_1 : decode cX3_call 1 = .ok (.ifCond .lt 12, 3) := by decide +kernel
theorem dX3_call_4 : decode cX3_call 4 = .ok (.iload_n 2, 1) := by decide +kernel
theorem dX3_call_5 : decode cX3_call 5 = .ok (.ifCond .lt 8, 3) := by decide +kernel
theorem dX3_call_8 : decode cX3_call 8 = .ok (.iload_n 3, 1) := by decide +kernel
theorem dX3_call_9 : decode cX3_call 9 = .ok (.iconst 1, 1) := by decide +kernel
theorem dX3_call_10 : decode cX3_call 10 = .ok (.if_icmp .ge 10, 3) := by decide +kernel
theorem dX3_call_13 : decode cX3_call 13 = .ok (.aload_n 0, 1) := by decide +kernel
theorem dX3_call_14 : decode cX3_call 14 = .ok (.bipush (-4), 2) := by decide +kernel
theorem dX3_call_16 : decode cX3_call 16 = .ok (.invokevirtual 39, 3) := by decide +kernel
theorem dX3_call_19 : decode cX3_call 19 = .ok (.ireturn, 1) := by decide +kernel
theorem dX3_call_20 : decode cX3_call 20 = .ok (.iload_n 1, 1) := by decide +kernel
theorem dX3_call_21 : decode cX3_call 21 = .ok (.ldc 92, 2) := by decide +kernel
theorem dX3_call_23 : decode cX3_call 23 = .ok (.if_icmp .gt 28, 3) := by decide +kernel
theorem dX3_call_26 : decode cX3_call 26 = .ok (.iload_n 2, 1) := by decide +kernel
theorem dX3_call_27 : decode cX3_call 27 = .ok (.iconst 3, 1) := by decide +kernel
theorem dX3_call_28 : decode cX3_call 28 = .ok (.if_icmp .gt 23, 3) := by decide +kernel
theorem dX3_call_31 : decode cX3_call 31 = .ok (.iload_n 3, 1) := by decide +kernel
theorem dX3_call_32 : decode cX3_call 32 = .ok (.sipush 2000, 3) := by decide +kernel
theorem dX3_call_35 : decode cX3_call 35 = .ok (.if_icmp .gt 16, 3) := by decide +kernel
theorem dX3_call_38 : decode cX3_call 38 = .ok (.aload_n 0, 1) := by decide +kernel
theorem dX3_call_39 : decode cX3_call 39 = .ok (.getfield 16, 3) := by decide +kernel
theorem dX3_call_42 : decode cX3_call 42 = .ok (.invokevirtual 43, 3) := by decide +kernel
theorem dX3_call_45 : decode cX3_call 45 = .ok (.sipush 200, 3) := by decide +kernel
theorem dX3_call_48 : decode cX3_call 48 = .ok (.if_icmp .lt 10, 3) := by decide +kernel
theorem dX3_call_51 : decode cX3_call 51 = .ok (.aload_n 0, 1) := by decide +kernel
theorem dX3_call_52 : decode cX3_call 52 = .ok (.bipush (-6), 2) := by decide +kernel
theorem dX3_call_54 : decode cX3_call 54 = .ok (.invokevirtual 39, 3) := by decide +kernel
theorem dX3_call_57 : decode cX3_call 57 = .ok (.ireturn, 1) := by decide +kernel
theorem dX3_call_58 : decode cX3_call 58 = .ok (.new 93, 3) := by decide +kernel
theorem dX3_call_61 : decode cX3_call 61 = .ok (.dup, 1) := by decide +kernel
theorem dX3_call_62 : decode cX3_call 62 = .ok (.aload_n 0, 1) := by decide +kernel
theorem dX3_call_63 : decode cX3_call 63 = .ok (.getfield 16, 3) := by decide +kernel
theorem dX3_call_66 : decode cX3_call 66 = .ok (.invokevirtual 43, 3) := by decide +kernel
theorem dX3_call_69 : decode cX3_call 69 = .ok (.iload_n 1, 1) := by decide +kernel
theorem dX3_call_70 : decode cX3_call 70 = .ok (.iload_n 2, 1) := by decide +kernel
theorem dX3_call_71 : decode cX3_call 71 = .ok (.aload_n 0, 1) := by decide +kernel
theorem dX3_call_72 : decode cX3_call 72 = .ok (.getfield 95, 3) := by decide +kernel
theorem dX3_call_75 : decode cX3_call 75 = .ok (.aload_n 0, 1) := by decide +kernel
theorem dX3_call_76 : decode cX3_call 76 = .ok (.getfield 95, 3) := by decide +kernel
theorem dX3_call_79 : decode cX3_call 79 = .ok (.iload_n 3, 1) := by decide +kernel
theorem dX3_call_80 : decode cX3_call 80 = .ok (.iadd, 1) := by decide +kernel
theorem dX3_call_81 : decode cX3_call 81 = .ok (.iload 4, 2) := by decide +kernel
theorem dX3_call_83 : decode cX3_call 83 = .ok (.invokespecial 98, 3) := by decide +kernel
theorem dX3_call_86 : decode cX3_call 86 = .ok (.astore 5, 2) := by decide +kernel
theorem dX3_call_88 : decode cX3_call 88 = .ok (.aload_n 0, 1) := by decide +kernel
theorem dX3_call_89 : decode cX3_call 89 = .ok (.getfield 16, 3) := by decide +kernel
theorem dX3_call_92 : decode cX3_call 92 = .ok (.aload 5, 2) := by decide +kernel
theorem dX3_call_94 : decode cX3_call 94 = .ok (.invokevirtual 52, 3) := by decide +kernel
theorem dX3_call_97 : decode cX3_call 97 = .ok (.pop, 1) := by decide +kernel
theorem dX3_call_98 : decode cX3_call 98 = .ok (.aload_n 0, 1) := by decide +kernel
theorem dX3_call_99 : decode cX3_call 99 = .ok (.getfield 19, 3) := by decide +kernel
theorem dX3_call_102 : decode cX3_call 102 = .ok (.aload 5, 2) := by decide +kernel
theorem dX3_call_104 : decode cX3_call 104 = .ok (.invokevirtual 52, 3) := by decide +kernel
theorem dX3_call_107 : decode cX3_call 107 = .ok (.pop, 1) := by decide +kernel
theorem dX3_call_108 : decode cX3_call 108 = .ok (.aload_n 0, 1) := by decide +kernel
theorem dX3_call_109 : decode cX3_call 109 = .ok (.aload 5, 2) := by decide +kernel
theorem dX3_call_111 : decode cX3_call 111 = .ok (.invokevirtual 101, 3) := by decide +kernel
theorem dX3_call_114 : decode cX3_call 114 = .ok (.ifCond .ne 9, 3) := by decide +kernel
theorem dX3_call_117 : decode cX3_call 117 = .ok (.aload_n 0, 1) := by decide +kernel
theorem dX3_call_118 : decode cX3_call 118 = .ok (.aload 5, 2) := by decide +kernel
theorem dX3_call_120 : decode cX3_call 120 = .ok (.invokevirtual 105, 3) := by decide +kernel
theorem dX3_call_123 : decode cX3_call 123 = .ok (.aload 5, 2) := by decide +kernel
theorem dX3_call_125 : decode cX3_call 125 = .ok (.getfield 109, 3) := by decide +kernel
theorem dX3_call_128 : decode cX3_call 128 = .ok (.ireturn, 1) := by decide +kernel
theorem dX3_off_0 : decode cX3_off 0 = .ok (.aload_n 0, 1) := by decide +kernel
theorem dX3_off_1 : decode cX3_off 1 = .ok (.iload_n 1, 1) := by decide +kernel
theorem dX3_off_2 : decode cX3_off 2 = .ok (.invokevirtual 110, 3) := by decide +kernel
theorem dX3_off_5 : decode cX3_off 5 = .ok (.astore_n 2, 1) := by decide +kernel
theorem dX3_off_6 : decode cX3_off 6 = .ok (.aload_n 2, 1) := by decide +kernel
theorem dX3_off_7 : decode cX3_off 7 = .ok (.ifnonnull 9, 3) := by decide +kernel
theorem dX3_off_10 : decode cX3_off 10 = .ok (.aload_n 0, 1) := by decide +kernel
theorem dX3_off_11 : decode cX3_off 11 = .ok (.iconst (-1), 1) := by decide +kernel
theorem dX3_off_12 : decode cX3_off 12 = .ok (.invokevirtual 39, 3) := by decide +kernel
theorem dX3_off_15 : decode cX3_off 15 = .ok (.ireturn, 1) := by decide +kernel
theorem dX3_off_16 : decode cX3_off 16 = .ok (.aload_n 2, 1) := by decide +kernel
theorem dX3_off_17 : decode cX3_off 17 = .ok (.invokevirtual 114, 3) := by decide +kernel
theorem dX3_off_20 : decode cX3_off 20 = .ok (.ifCond .eq 10, 3) := by decide +kernel
theorem dX3_off_23 : decode cX3_off 23 = .ok (.aload_n 0, 1) := by decide +kernel
theorem dX3_off_24 : decode cX3_off 24 = .ok (.bipush (-3), 2) := by decide +kernel
theorem dX3_off_26 : decode cX3_off 26 = .ok (.invokevirtual 39, 3) := by decide +kernel
theorem dX3_off_29 : decode cX3_off 29 = .ok (.ireturn, 1) := by decide +kernel
theorem dX3_off_30 : decode cX3_off 30 = .ok (.aload_n 2, 1) := by decide +kernel
theorem dX3_off_31 : decode cX3_off 31 = .ok (.getfield 118, 3) := by decide +kernel
theorem dX3_off_34 : decode cX3_off 34 = .ok (.ifCond .ne 8, 3) := by decide +kernel
theorem dX3_off_37 : decode cX3_off 37 = .ok (.aload_n 0, 1) := by decide +kernel
theorem dX3_off_38 : decode cX3_off 38 = .ok (.aload_n 2, 1) := by decide +kernel
theorem dX3_off_39 : decode cX3_off 39 = .ok (.invokevirtual 121, 3) := by decide +kernel
theorem dX3_off_42 : decode cX3_off 42 = .ok (.aload_n 2, 1) := by decide +kernel
theorem dX3_off_43 : decode cX3_off 43 = .ok (.invokevirtual 124, 3) := by decide +kernel
theorem dX3_off_46 : decode cX3_off 46 = .ok (.aload_n 0, 1) := by decide +kernel
theorem dX3_off_47 : decode cX3_off 47 = .ok (.aload_n 2, 1) := by decide +kernel
theorem dX3_off_48 : decode cX3_off 48 = .ok (.iconst 4, 1) := by decide +kernel
theorem dX3_off_49 : decode cX3_off 49 = .ok (.invokevirtual 127, 3) := by decide +kernel
theorem dX3_off_52 : decode cX3_off 52 = .ok (.aload_n 0, 1) := by decide +kernel
theorem dX3_off_53 : decode cX3_off 53 = .ok (.invokevirtual 131, 3) := by decide +kernel
theorem dX3_off_56 : decode cX3_off 56 = .ok (.iconst 1, 1) := by decide +kernel
theorem dX3_off_57 : decode cX3_off 57 = .ok (.ireturn, 1) := by decide +kernel
theorem dX3_ticks_0 : decode cX3_ticks 0 = .ok (.iload_n 1, 1) := by decide +kernel
theorem dX3_ticks_1 : decode cX3_ticks 1 = .ok (.iconst 1, 1) := by decide +kernel
theorem dX3_ticks_2 : decode cX3_ticks 2 = .ok (.sipush 20000, 3) := by decide +kernel
theorem dX3_ticks_5 : decode cX3_ticks 5 = .ok (.aload_n 0, 1) := by decide +kernel
theorem dX3_ticks_6 : decode cX3_ticks 6 = .ok (.getfield 95, 3) := by decide +kernel
theorem dX3_ticks_9 : decode cX3_ticks 9 = .ok (.isub, 1) := by decide +kernel
theorem dX3_ticks_10 : decode cX3_ticks 10 = .ok (.invokestatic 72, 3) := by decide +kernel
theorem dX3_ticks_13 : decode cX3_ticks 13 = .ok (.istore_n 2, 1) := by decide +kernel
theorem dX3_ticks_14 : decode cX3_ticks 14 = .ok (.iload_n 2, 1) := by decide +kernel
theorem dX3_ticks_15 : decode cX3_ticks 15 = .ok (.ifCond .eq 9, 3) := by decide +kernel
theorem dX3_ticks_18 : decode cX3_ticks 18 = .ok (.aload_n 0, 1) := by decide +kernel
theorem dX3_ticks_19 : decode cX3_ticks 19 = .ok (.iload_n 2, 1) := by decide +kernel
theorem dX3_ticks_20 : decode cX3_ticks 20 = .ok (.invokevirtual 39, 3) := by decide +kernel
theorem dX3_ticks_23 : decode cX3_ticks 23 = .ok (.ireturn, 1) := by decide +kernel
theorem dX3_ticks_24 : decode cX3_ticks 24 = .ok (.aload_n 0, 1) := by decide +kernel
theorem dX3_ticks_25 : decode cX3_ticks 25 = .ok (.getfield 134, 3) := by decide +kernel
theorem dX3_ticks_28 : decode cX3_ticks 28 = .ok (.istore_n 3, 1) := by decide +kernel
theorem dX3_ticks_29 : decode cX3_ticks 29 = .ok (.iconst 0, 1) := by decide +kernel
theorem dX3_ticks_30 : decode cX3_ticks 30 = .ok (.istore 4, 2) := by decide +kernel
theorem dX3_ticks_32 : decode cX3_ticks 32 = .ok (.iload 4, 2) := by decide +kernel
theorem dX3_ticks_34 : decode cX3_ticks 34 = .ok (.iload_n 1, 1) := by decide +kernel
theorem dX3_ticks_35 : decode cX3_ticks 35 = .ok (.if_icmp .ge 13, 3) := by decide +kernel
theorem dX3_ticks_38 : decode cX3_ticks 38 = .ok (.aload_n 0, 1) := by decide +kernel
theorem dX3_ticks_39 : decode cX3_ticks 39 = .ok (.invokevirtual 137, 3) := by decide +kernel
theorem dX3_ticks_42 : decode cX3_ticks 42 = .ok (.iinc 4 1, 3) := by decide +kernel
theorem dX3_ticks_45 : decode cX3_ticks 45 = .ok (.goto (-13), 3) := by decide +kernel
theorem dX3_ticks_48 : decode cX3_ticks 48 = .ok (.aload_n 0, 1) := by decide +kernel
theorem dX3_ticks_49 : decode cX3_ticks 49 = .ok (.getfield 134, 3) := by decide +kernel
theorem dX3_ticks_52 : decode cX3_ticks 52 = .ok (.iload_n 3, 1) := by decide +kernel
theorem dX3_ticks_53 : decode cX3_ticks 53 = .ok (.isub, 1) := by decide +kernel
theorem dX3_ticks_54 : decode cX3_ticks 54 = .ok (.ireturn, 1) := by decide +kernel
theorem dX3_pick_0 : decode cX3_pick 0 = .ok (.iload_n 1, 1) := by decide +kernel
theorem dX3_pick_1 : decode cX3_pick 1 = .ok (.iconst 0, 1) := by decide +kernel
theorem dX3_pick_2 : decode cX3_pick 2 = .ok (.ldc 92, 2) := by decide +kernel
theorem dX3_pick_4 : decode cX3_pick 4 = .ok (.invokestatic 72, 3) := by decide +kernel
theorem dX3_pick_7 : decode cX3_pick 7 = .ok (.istore_n 2, 1) := by decide +kernel
theorem dX3_pick_8 : decode cX3_pick 8 = .ok (.iload_n 2, 1) := by decide +kernel
theorem dX3_pick_9 : decode cX3_pick 9 = .ok (.ifCond .eq 9, 3) := by decide +kernel
theorem dX3_pick_12 : decode cX3_pick 12 = .ok (.aload_n 0, 1) := by decide +kernel
theorem dX3_pick_13 : decode cX3_pick 13 = .ok (.iload_n 2, 1) := by decide +kernel
theorem dX3_pick_14 : decode cX3_pick 14 = .ok (.invokevirtual 39, 3) := by decide +kernel
theorem dX3_pick_17 : decode cX3_pick 17 = .ok (.ireturn, 1) := by decide +kernel
theorem dX3_pick_18 : decode cX3_pick 18 = .ok (.aload_n 0, 1) := by decide +kernel
theorem dX3_pick_19 : decode cX3_pick 19 = .ok (.iload_n 1, 1) := by decide +kernel
theorem dX3_pick_20 : decode cX3_pick 20 = .ok (.iconst 0, 1) := by decide +kernel
theorem dX3_pick_21 : decode cX3_pick 21 = .ok (.invokevirtual 140, 3) := by decide +kernel
theorem dX3_pick_24 : decode cX3_pick 24 = .ok (.astore_n 3, 1) := by decide +kernel
theorem dX3_pick_25 : decode cX3_pick 25 = .ok (.aload_n 3, 1) := by decide +kernel
theorem dX3_pick_26 : decode cX3_pick 26 = .ok (.ifnonnull 8, 3) := by decide +kernel
theorem dX3_pick_29 : decode cX3_pick 29 = .ok (.bipush (-9), 2) := by decide +kernel
theorem dX3_pick_31 : decode cX3_pick 31 = .ok (.goto 7, 3) := by decide +kernel
theorem dX3_pick_34 : decode cX3_pick 34 = .ok (.aload_n 3, 1) := by decide +kernel
theorem dX3_pick_35 : decode cX3_pick 35 = .ok (.getfield 56, 3) := by decide +kernel
theorem dX3_pick_38 : decode cX3_pick 38 = .ok (.ireturn, 1) := by decide +kernel
theorem dX3_callOf_0 : decode cX3_callOf 0 = .ok (.aload_n 0, 1) := by decide +kernel
theorem dX3_callOf_1 : decode cX3_callOf 1 = .ok (.iload_n 1, 1) := by decide +kernel
theorem dX3_callOf_2 : decode cX3_callOf 2 = .ok (.invokevirtual 110, 3) := by decide +kernel
theorem dX3_callOf_5 : decode cX3_callOf 5 = .ok (.astore_n 3, 1) := by decide +kernel
theorem dX3_callOf_6 : decode cX3_callOf 6 = .ok (.aload_n 3, 1) := by decide +kernel
theorem dX3_callOf_7 : decode cX3_callOf 7 = .ok (.ifnonnull 9, 3) := by decide +kernel
theorem dX3_callOf_10 : decode cX3_callOf 10 = .ok (.aload_n 0, 1) := by decide +kernel
theorem dX3_callOf_11 : decode cX3_callOf 11 = .ok (.iconst (-1), 1) := by decide +kernel
theorem dX3_callOf_12 : decode cX3_callOf 12 = .ok (.invokevirtual 39, 3) := by decide +kernel
theorem dX3_callOf_15 : decode cX3_callOf 15 = .ok (.ireturn, 1) := by decide +kernel
theorem dX3_callOf_16 : decode cX3_callOf 16 = .ok (.iload_n 2, 1) := by decide +kernel
theorem dX3_callOf_17 : decode cX3_callOf 17 = .ok (.ifCond .lt 9, 3) := by decide +kernel
theorem dX3_callOf_20 : decode cX3_callOf 20 = .ok (.iload_n 2, 1) := by decide +kernel
theorem dX3_callOf_21 : decode cX3_callOf 21 = .ok (.bipush 10, 2) := by decide +kernel
theorem dX3_callOf_23 : decode cX3_callOf 23 = .ok (.if_icmp .le 12, 3) := by decide +kernel
theorem dX3_callOf_26 : decode cX3_callOf 26 = .ok (.aload_n 0, 1) := by decide +kernel
theorem dX3_callOf_27 : decode cX3_callOf 27 = .ok (.bipush (-2), 2) := by decide +kernel
theorem dX3_callOf_29 : decode cX3_callOf 29 = .ok (.invokevirtual 39, 3) := by decide +kernel
theorem dX3_callOf_32 : decode cX3_callOf 32 = .ok (.goto 8, 3) := by decide +kernel
theorem dX3_callOf_35 : decode cX3_callOf 35 = .ok (.aload_n 3, 1) := by decide +kernel
theorem dX3_callOf_36 : decode cX3_callOf 36 = .ok (.iload_n 2, 1) := by decide +kernel
theorem dX3_callOf_37 : decode cX3_callOf 37 = .ok (.invokevirtual 144, 3) := by decide +kernel
theorem dX3_callOf_40 : decode cX3_callOf 40 = .ok (.ireturn, 1) := by decide +kernel
theorem dX3_serverOf_0 : decode cX3_serverOf 0 = .ok (.aload_n 0, 1) := by decide +kernel
theorem dX3_serverOf_1 : decode cX3_serverOf 1 = .ok (.iload_n 1, 1) := by decide +kernel
theorem dX3_serverOf_2 : decode cX3_serverOf 2 = .ok (.invokevirtual 59, 3) := by decide +kernel
theorem dX3_serverOf_5 : decode cX3_serverOf 5 = .ok (.astore_n 3, 1) := by decide +kernel
theorem dX3_serverOf_6 : decode cX3_serverOf 6 = .ok (.aload_n 3, 1) := by decide +kernel
theorem dX3_serverOf_7 : decode cX3_serverOf 7 = .ok (.ifnonnull 9, 3) := by decide +kernel
theorem dX3_serverOf_10 : decode cX3_serverOf 10 = .ok (.aload_n 0, 1) := by decide +kernel
theorem dX3_serverOf_11 : decode cX3_serverOf 11 = .ok (.iconst (-1), 1) := by decide +kernel
theorem dX3_serverOf_12 : decode cX3_serverOf 12 = .ok (.invokevirtual 39, 3) := by decide +kernel
theorem dX3_serverOf_15 : decode cX3_serverOf 15 = .ok (.ireturn, 1) := by decide +kernel
theorem dX3_serverOf_16 : decode cX3_serverOf 16 = .ok (.iload_n 2, 1) := by decide +kernel
theorem dX3_serverOf_17 : decode cX3_serverOf 17 = .ok (.ifCond .lt 9, 3) := by decide +kernel
theorem dX3_serverOf_20 : decode cX3_serverOf 20 = .ok (.iload_n 2, 1) := by decide +kernel
theorem dX3_serverOf_21 : decode cX3_serverOf 21 = .ok (.bipush 15, 2) := by decide +kernel
theorem dX3_serverOf_23 : decode cX3_serverOf 23 = .ok (.if_icmp .le 12, 3) := by decide +kernel
theorem dX3_serverOf_26 : decode cX3_serverOf 26 = .ok (.aload_n 0, 1) := by decide +kernel
theorem dX3_serverOf_27 : decode cX3_serverOf 27 = .ok (.bipush (-2), 2) := by decide +kernel
theorem dX3_serverOf_29 : decode cX3_serverOf 29 = .ok (.invokevirtual 39, 3) := by decide +kernel
theorem dX3_serverOf_32 : decode cX3_serverOf 32 = .ok (.goto 8, 3) := by decide +kernel
theorem dX3_serverOf_35 : decode cX3_serverOf 35 = .ok (.aload_n 3, 1) := by decide +kernel
theorem dX3_serverOf_36 : decode cX3_serverOf 36 = .ok (.iload_n 2, 1) := by decide +kernel
theorem dX3_serverOf_37 : decode cX3_serverOf 37 = .ok (.invokevirtual 147, 3) := by decide +kernel
theorem dX3_serverOf_40 : decode cX3_serverOf 40 = .ok (.ireturn, 1) := by decide +kernel
theorem dX3_mark_0 : decode cX3_mark 0 = .ok (.aload_n 0, 1) := by decide +kernel
theorem dX3_mark_1 : decode cX3_mark 1 = .ok (.iload_n 1, 1) := by decide +kernel
theorem dX3_mark_2 : decode cX3_mark 2 = .ok (.invokevirtual 59, 3) := by decide +kernel
theorem dX3_mark_5 : decode cX3_mark 5 = .ok (.astore_n 3, 1) := by decide +kernel
theorem dX3_mark_6 : decode cX3_mark 6 = .ok (.aload_n 3, 1) := by decide +kernel
theorem dX3_mark_7 : decode cX3_mark 7 = .ok (.ifnonnull 9, 3) := by decide +kernel
theorem dX3_mark_10 : decode cX3_mark 10 = .ok (.aload_n 0, 1) := by decide +kernel
theorem dX3_mark_11 : decode cX3_mark 11 = .ok (.iconst (-1), 1) := by decide +kernel
theorem dX3_mark_12 : decode cX3_mark 12 = .ok (.invokevirtual 39, 3) := by decide +kernel
theorem dX3_mark_15 : decode cX3_mark 15 = .ok (.ireturn, 1) := by decide +kernel
theorem dX3_mark_16 : decode cX3_mark 16 = .ok (.iload_n 2, 1) := by decide +kernel
theorem dX3_mark_17 : decode cX3_mark 17 = .ok (.ifCond .lt 8, 3) := by decide +kernel
theorem dX3_mark_20 : decode cX3_mark 20 = .ok (.iload_n 2, 1) := by decide +kernel
theorem dX3_mark_21 : decode cX3_mark 21 = .ok (.iconst 4, 1) := by decide +kernel
theorem dX3_mark_22 : decode cX3_mark 22 = .ok (.if_icmp .lt 12, 3) := by decide +kernel
theorem dX3_mark_25 : decode cX3_mark 25 = .ok (.aload_n 0, 1) := by decide +kernel
theorem dX3_mark_26 : decode cX3_mark 26 = .ok (.bipush (-2), 2) := by decide +kernel
theorem dX3_mark_28 : decode cX3_mark 28 = .ok (.invokevirtual 39, 3) := by decide +kernel
theorem dX3_mark_31 : decode cX3_mark 31 = .ok (.goto 8, 3) := by decide +kernel
theorem dX3_mark_34 : decode cX3_mark 34 = .ok (.aload_n 3, 1) := by decide +kernel
theorem dX3_mark_35 : decode cX3_mark 35 = .ok (.iload_n 2, 1) := by decide +kernel
theorem dX3_mark_36 : decode cX3_mark 36 = .ok (.invokevirtual 148, 3) := by decide +kernel
theorem dX3_mark_39 : decode cX3_mark 39 = .ok (.ireturn, 1) := by decide +kernel
theorem dX3_queue_0 : decode cX3_queue 0 = .ok (.iload_n 1, 1) := by decide +kernel
theorem dX3_queue_1 : decode cX3_queue 1 = .ok (.ifCond .lt 14, 3) := by decide +kernel
theorem dX3_queue_4 : decode cX3_queue 4 = .ok (.iload_n 1, 1) := by decide +kernel
theorem dX3_queue_5 : decode cX3_queue 5 = .ok (.aload_n 0, 1) := by decide +kernel
theorem dX3_queue_6 : decode cX3_queue 6 = .ok (.getfield 22, 3) := by decide +kernel
theorem dX3_queue_9 : decode cX3_queue 9 = .ok (.invokevirtual 43, 3) := by decide +kernel
theorem dX3_queue_12 : decode cX3_queue 12 = .ok (.if_icmp .lt 8, 3) := by decide +kernel
theorem dX3_queue_15 : decode cX3_queue 15 = .ok (.bipush (-9), 2) := by decide +kernel
theorem dX3_queue_17 : decode cX3_queue 17 = .ok (.goto 17, 3) := by decide +kernel
theorem dX3_queue_20 : decode cX3_queue 20 = .ok (.aload_n 0, 1) := by decide +kernel
theorem dX3_queue_21 : decode cX3_queue 21 = .ok (.getfield 22, 3) := by decide +kernel
theorem dX3_queue_24 : decode cX3_queue 24 = .ok (.iload_n 1, 1) := by decide +kernel
theorem dX3_queue_25 : decode cX3_queue 25 = .ok (.invokevirtual 151, 3) := by decide +kernel
theorem dX3_queue_28 : decode cX3_queue 28 = .ok (.checkcast 93, 3) := by decide +kernel
theorem dX3_queue_31 : decode cX3_queue 31 = .ok (.getfield 109, 3) := by decide +kernel
theorem dX3_queue_34 : decode cX3_queue 34 = .ok (.ireturn, 1) := by decide +kernel
theorem dX3_share_0 : decode cX3_share 0 = .ok (.aload_n 0, 1) := by decide +kernel
theorem dX3_share_1 : decode cX3_share 1 = .ok (.iload_n 1, 1) := by decide +kernel
theorem dX3_share_2 : decode cX3_share 2 = .ok (.invokevirtual 59, 3) := by decide +kernel
theorem dX3_share_5 : decode cX3_share 5 = .ok (.astore_n 2, 1) := by decide +kernel
theorem dX3_share_6 : decode cX3_share 6 = .ok (.aload_n 2, 1) := by decide +kernel
theorem dX3_share_7 : decode cX3_share 7 = .ok (.ifnonnull 9, 3) := by decide +kernel
theorem dX3_share_10 : decode cX3_share 10 = .ok (.aload_n 0, 1) := by decide +kernel
theorem dX3_share_11 : decode cX3_share 11 = .ok (.iconst (-1), 1) := by decide +kernel
theorem dX3_share_12 : decode cX3_share 12 = .ok (.invokevirtual 39, 3) := by decide +kernel
theorem dX3_share_15 : decode cX3_share 15 = .ok (.ireturn, 1) := by decide +kernel
theorem dX3_share_16 : decode cX3_share 16 = .ok (.aload_n 0, 1) := by decide +kernel
theorem dX3_share_17 : decode cX3_share 17 = .ok (.invokevirtual 155, 3) := by decide +kernel
theorem dX3_share_20 : decode cX3_share 20 = .ok (.istore_n 3, 1) := by decide +kernel
theorem dX3_share_21 : decode cX3_share 21 = .ok (.iload_n 3, 1) := by decide +kernel
theorem dX3_share_22 : decode cX3_share 22 = .ok (.ifCond .ne 7, 3) := by decide +kernel
theorem dX3_share_25 : decode cX3_share 25 = .ok (.iconst 0, 1) := by decide +kernel
theorem dX3_share_26 : decode cX3_share 26 = .ok (.goto 13, 3) := by decide +kernel
theorem dX3_share_29 : decode cX3_share 29 = .ok (.aload_n 2, 1) := by decide +kernel
theorem dX3_share_30 : decode cX3_share 30 = .ok (.getfield 158, 3) := by decide +kernel
theorem dX3_share_33 : decode cX3_share 33 = .ok (.sipush 1000, 3) := by decide +kernel
theorem dX3_share_36 : decode cX3_share 36 = .ok (.imul, 1) := by decide +kernel
theorem dX3_share_37 : decode cX3_share 37 = .ok (.iload_n 3, 1) := by decide +kernel
theorem dX3_share_38 : decode cX3_share 38 = .ok (.idiv, 1) := by decide +kernel
theorem dX3_share_39 : decode cX3_share 39 = .ok (.ireturn, 1) := by decide +kernel
theorem dX3_count_0 : decode cX3_count 0 = .ok (.iload_n 1, 1) := by decide +kernel
theorem dX3_count_1 : decode cX3_count 1 = .ok (.iconst 3, 1) := by decide +kernel
theorem dX3_count_2 : decode cX3_count 2 = .ok (.if_icmp .lt 17, 3) := by decide +kernel
theorem dX3_count_5 : decode cX3_count 5 = .ok (.iload_n 1, 1) := by decide +kernel
theorem dX3_count_6 : decode cX3_count 6 = .ok (.bipush 7, 2) := by decide +kernel
theorem dX3_count_8 : decode cX3_count 8 = .ok (.if_icmp .gt 11, 3) := by decide +kernel
theorem dX3_count_11 : decode cX3_count 11 = .ok (.aload_n 0, 1) := by decide +kernel
theorem dX3_count_12 : decode cX3_count 12 = .ok (.iload_n 1, 1) := by decide +kernel
theorem dX3_count_13 : decode cX3_count 13 = .ok (.iconst 3, 1) := by decide +kernel
theorem dX3_count_14 : decode cX3_count 14 = .ok (.isub, 1) := by decide +kernel
theorem dX3_count_15 : decode cX3_count 15 = .ok (.invokevirtual 161, 3) := by decide +kernel
theorem dX3_count_18 : decode cX3_count 18 = .ok (.ireturn, 1) := by decide +kernel
theorem dX3_count_19 : decode cX3_count 19 = .ok (.iload_n 1, 1) := by decide +kernel
theorem dX3_count_20 : decode cX3_count 20 = .ok (.bipush 11, 2) := by decide +kernel
theorem dX3_count_22 : decode cX3_count 22 = .ok (.if_icmp .lt 19, 3) := by decide +kernel
theorem dX3_count_25 : decode cX3_count 25 = .ok (.iload_n 1, 1) := by decide +kernel
theorem dX3_count_26 : decode cX3_count 26 = .ok (.bipush 16, 2) := by decide +kernel
theorem dX3_count_28 : decode cX3_count 28 = .ok (.if_icmp .gt 13, 3) := by decide +kernel
theorem dX3_count_31 : decode cX3_count 31 = .ok (.aload_n 0, 1) := by decide +kernel
theorem dX3_count_32 : decode cX3_count 32 = .ok (.getfield 25, 3) := by decide +kernel
theorem dX3_count_35 : decode cX3_count 35 = .ok (.iload_n 1, 1) := by decide +kernel
theorem dX3_count_36 : decode cX3_count 36 = .ok (.bipush 10, 2) := by decide +kernel
theorem dX3_count_38 : decode cX3_count 38 = .ok (.isub, 1) := by decide +kernel
theorem dX3_count_39 : decode cX3_count 39 = .ok (.iaload, 1) := by decide +kernel
theorem dX3_count_40 : decode cX3_count 40 = .ok (.ireturn, 1) := by decide +kernel
theorem dX3_count_41 : decode cX3_count 41 = .ok (.iload_n 1, 1) := by decide +kernel
theorem dX3_count_42 : decode cX3_count 42 = .ok (.tableswitch 127 0 17 #[86, 91, 99, 127, 127, 127, 127, 127, 107, 112, 117, 127, 127, 127, 127, 127, 127, 122], 86) := by decide +kernel
theorem dX3_count_128 : decode cX3_count 128 = .ok (.aload_n 0, 1) := by decide +kernel
theorem dX3_count_129 : decode cX3_count 129 = .ok (.getfield 95, 3) := by decide +kernel
theorem dX3_count_132 : decode cX3_count 132 = .ok (.ireturn, 1) := by decide +kernel
theorem dX3_count_133 : decode cX3_count 133 = .ok (.aload_n 0, 1) := by decide +kernel
theorem dX3_count_134 : decode cX3_count 134 = .ok (.getfield 10, 3) := by decide +kernel
theorem dX3_count_137 : decode cX3_count 137 = .ok (.invokevirtual 43, 3) := by decide +kernel
theorem dX3_count_140 : decode cX3_count 140 = .ok (.ireturn, 1) := by decide +kernel
theorem dX3_count_141 : decode cX3_count 141 = .ok (.aload_n 0, 1) := by decide +kernel
theorem dX3_count_142 : decode cX3_count 142 = .ok (.getfield 16, 3) := by decide +kernel
theorem dX3_count_145 : decode cX3_count 145 = .ok (.invokevirtual 43, 3) := by decide +kernel
theorem dX3_count_148 : decode cX3_count 148 = .ok (.ireturn, 1) := by decide +kernel
theorem dX3_count_149 : decode cX3_count 149 = .ok (.aload_n 0, 1) := by decide +kernel
theorem dX3_count_150 : decode cX3_count 150 = .ok (.invokevirtual 155, 3) := by decide +kernel
theorem dX3_count_153 : decode cX3_count 153 = .ok (.ireturn, 1) := by decide +kernel
theorem dX3_count_154 : decode cX3_count 154 = .ok (.aload_n 0, 1) := by decide +kernel
theorem dX3_count_155 : decode cX3_count 155 = .ok (.getfield 164, 3) := by decide +kernel
theorem dX3_count_158 : decode cX3_count 158 = .ok (.ireturn, 1) := by decide +kernel
theorem dX3_count_159 : decode cX3_count 159 = .ok (.aload_n 0, 1) := by decide +kernel
theorem dX3_count_160 : decode cX3_count 160 = .ok (.getfield 167, 3) := by decide +kernel
theorem dX3_count_163 : decode cX3_count 163 = .ok (.ireturn, 1) := by decide +kernel
theorem dX3_count_164 : decode cX3_count 164 = .ok (.aload_n 0, 1) := by decide +kernel
theorem dX3_count_165 : decode cX3_count 165 = .ok (.invokevirtual 170, 3) := by decide +kernel
theorem dX3_count_168 : decode cX3_count 168 = .ok (.ireturn, 1) := by decide +kernel
theorem dX3_count_169 : decode cX3_count 169 = .ok (.bipush (-9), 2) := by decide +kernel
theorem dX3_count_171 : decode cX3_count 171 = .ok (.ireturn, 1) := by decide +kernel
theorem dX3_serverAt_0 : decode cX3_serverAt 0 = .ok (.iload_n 1, 1) := by decide +kernel
theorem dX3_serverAt_1 : decode cX3_serverAt 1 = .ok (.ifCond .lt 14, 3) := by decide +kernel
theorem dX3_serverAt_4 : decode cX3_serverAt 4 = .ok (.iload_n 1, 1) := by decide +kernel
theorem dX3_serverAt_5 : decode cX3_serverAt 5 = .ok (.aload_n 0, 1) := by decide +kernel
theorem dX3_serverAt_6 : decode cX3_serverAt 6 = .ok (.getfield 10, 3) := by decide +kernel
theorem dX3_serverAt_9 : decode cX3_serverAt 9 = .ok (.invokevirtual 43, 3) := by decide +kernel
theorem dX3_serverAt_12 : decode cX3_serverAt 12 = .ok (.if_icmp .lt 7, 3) := by decide +kernel
theorem dX3_serverAt_15 : decode cX3_serverAt 15 = .ok (.aconst_null, 1) := by decide +kernel
theorem dX3_serverAt_16 : decode cX3_serverAt 16 = .ok (.goto 14, 3) := by decide +kernel
theorem dX3_serverAt_19 : decode cX3_serverAt 19 = .ok (.aload_n 0, 1) := by decide +kernel
theorem dX3_serverAt_20 : decode cX3_serverAt 20 = .ok (.getfield 10, 3) := by decide +kernel
theorem dX3_serverAt_23 : decode cX3_serverAt 23 = .ok (.iload_n 1, 1) := by decide +kernel
theorem dX3_serverAt_24 : decode cX3_serverAt 24 = .ok (.invokevirtual 151, 3) := by decide +kernel
theorem dX3_serverAt_27 : decode cX3_serverAt 27 = .ok (.checkcast 47, 3) := by decide +kernel
theorem dX3_serverAt_30 : decode cX3_serverAt 30 = .ok (.areturn, 1) := by decide +kernel
theorem dX3_callAt_0 : decode cX3_callAt 0 = .ok (.iload_n 1, 1) := by decide +kernel
theorem dX3_callAt_1 : decode cX3_callAt 1 = .ok (.ifCond .lt 14, 3) := by decide +kernel
theorem dX3_callAt_4 : decode cX3_callAt 4 = .ok (.iload_n 1, 1) := by decide +kernel
theorem dX3_callAt_5 : decode cX3_callAt 5 = .ok (.aload_n 0, 1) := by decide +kernel
theorem dX3_callAt_6 : decode cX3_callAt 6 = .ok (.getfield 16, 3) := by decide +kernel
theorem dX3_callAt_9 : decode cX3_callAt 9 = .ok (.invokevirtual 43, 3) := by decide +kernel
theorem dX3_callAt_12 : decode cX3_callAt 12 = .ok (.if_icmp .lt 7, 3) := by decide +kernel
theorem dX3_callAt_15 : decode cX3_callAt 15 = .ok (.aconst_null, 1) := by decide +kernel
theorem dX3_callAt_16 : decode cX3_callAt 16 = .ok (.goto 14, 3) := by decide +kernel
theorem dX3_callAt_19 : decode cX3_callAt 19 = .ok (.aload_n 0, 1) := by decide +kernel
theorem dX3_callAt_20 : decode cX3_callAt 20 = .ok (.getfield 16, 3) := by decide +kernel
theorem dX3_callAt_23 : decode cX3_callAt 23 = .ok (.iload_n 1, 1) := by decide +kernel
theorem dX3_callAt_24 : decode cX3_callAt 24 = .ok (.invokevirtual 151, 3) := by decide +kernel
theorem dX3_callAt_27 : decode cX3_callAt 27 = .ok (.checkcast 93, 3) := by decide +kernel
theorem dX3_callAt_30 : decode cX3_callAt 30 = .ok (.areturn, 1) := by decide +kernel
theorem dX3_refuse_0 : decode cX3_refuse 0 = .ok (.iload_n 1, 1) := by decide +kernel
theorem dX3_refuse_1 : decode cX3_refuse 1 = .ok (.ineg, 1) := by decide +kernel
theorem dX3_refuse_2 : decode cX3_refuse 2 = .ok (.istore_n 2, 1) := by decide +kernel
theorem dX3_refuse_3 : decode cX3_refuse 3 = .ok (.iload_n 2, 1) := by decide +kernel
theorem dX3_refuse_4 : decode cX3_refuse 4 = .ok (.ifCond .lt 22, 3) := by decide +kernel
theorem dX3_refuse_7 : decode cX3_refuse 7 = .ok (.iload_n 2, 1) := by decide +kernel
theorem dX3_refuse_8 : decode cX3_refuse 8 = .ok (.aload_n 0, 1) := by decide +kernel
theorem dX3_refuse_9 : decode cX3_refuse 9 = .ok (.getfield 25, 3) := by decide +kernel
theorem dX3_refuse_12 : decode cX3_refuse 12 = .ok (.arraylength, 1) := by decide +kernel
theorem dX3_refuse_13 : decode cX3_refuse 13 = .ok (.if_icmp .ge 13, 3) := by decide +kernel
theorem dX3_refuse_16 : decode cX3_refuse 16 = .ok (.aload_n 0, 1) := by decide +kernel
theorem dX3_refuse_17 : decode cX3_refuse 17 = .ok (.getfield 25, 3) := by decide +kernel
theorem dX3_refuse_20 : decode cX3_refuse 20 = .ok (.iload_n 2, 1) := by decide +kernel
theorem dX3_refuse_21 : decode cX3_refuse 21 = .ok (.dup2, 1) := by decide +kernel
theorem dX3_refuse_22 : decode cX3_refuse 22 = .ok (.iaload, 1) := by decide +kernel
theorem dX3_refuse_23 : decode cX3_refuse 23 = .ok (.iconst 1, 1) := by decide +kernel
theorem dX3_refuse_24 : decode cX3_refuse 24 = .ok (.iadd, 1) := by decide +kernel
theorem dX3_refuse_25 : decode cX3_refuse 25 = .ok (.iastore, 1) := by decide +kernel
theorem dX3_refuse_26 : decode cX3_refuse 26 = .ok (.iload_n 1, 1) := by decide +kernel
theorem dX3_refuse_27 : decode cX3_refuse 27 = .ok (.ireturn, 1) := by decide +kernel
theorem dX3_faultOf_0 : decode cX3_faultOf 0 = .ok (.iload_n 0, 1) := by decide +kernel
theorem dX3_faultOf_1 : decode cX3_faultOf 1 = .ok (.iload_n 1, 1) := by decide +kernel
theorem dX3_faultOf_2 : decode cX3_faultOf 2 = .ok (.if_icmp .ge 8, 3) := by decide +kernel
theorem dX3_faultOf_5 : decode cX3_faultOf 5 = .ok (.bipush (-4), 2) := by decide +kernel
theorem dX3_faultOf_7 : decode cX3_faultOf 7 = .ok (.goto 14, 3) := by decide +kernel
theorem dX3_faultOf_10 : decode cX3_faultOf 10 = .ok (.iload_n 0, 1) := by decide +kernel
theorem dX3_faultOf_11 : decode cX3_faultOf 11 = .ok (.iload_n 2, 1) := by decide +kernel
theorem dX3_faultOf_12 : decode cX3_faultOf 12 = .ok (.if_icmp .le 8, 3) := by decide +kernel
theorem dX3_faultOf_15 : decode cX3_faultOf 15 = .ok (.bipush (-6), 2) := by decide +kernel
theorem dX3_faultOf_17 : decode cX3_faultOf 17 = .ok (.goto 4, 3) := by decide +kernel
theorem dX3_faultOf_20 : decode cX3_faultOf 20 = .ok (.iconst 0, 1) := by decide +kernel
theorem dX3_faultOf_21 : decode cX3_faultOf 21 = .ok (.ireturn, 1) := by decide +kernel
theorem dX3_leastOf_0 : decode cX3_leastOf 0 = .ok (.iload_n 0, 1) := by decide +kernel
theorem dX3_leastOf_1 : decode cX3_leastOf 1 = .ok (.iconst 2, 1) := by decide +kernel
theorem dX3_leastOf_2 : decode cX3_leastOf 2 = .ok (.if_icmp .gt 7, 3) := by decide +kernel
theorem dX3_leastOf_5 : decode cX3_leastOf 5 = .ok (.iconst 1, 1) := by decide +kernel
theorem dX3_leastOf_6 : decode cX3_leastOf 6 = .ok (.goto 4, 3) := by decide +kernel
theorem dX3_leastOf_9 : decode cX3_leastOf 9 = .ok (.iconst 0, 1) := by decide +kernel
theorem dX3_leastOf_10 : decode cX3_leastOf 10 = .ok (.ireturn, 1) := by decide +kernel
theorem dX3_greatestOf_0 : decode cX3_greatestOf 0 = .ok (.iload_n 0, 1) := by decide +kernel
theorem dX3_greatestOf_1 : decode cX3_greatestOf 1 = .ok (.tableswitch 44 0 3 #[31, 34, 37, 41], 31) := by decide +kernel
theorem dX3_greatestOf_32 : decode cX3_greatestOf 32 = .ok (.bipush 100, 2) := by decide +kernel
theorem dX3_greatestOf_34 : decode cX3_greatestOf 34 = .ok (.ireturn, 1) := by decide +kernel
theorem dX3_greatestOf_35 : decode cX3_greatestOf 35 = .ok (.bipush 20, 2) := by decide +kernel
theorem dX3_greatestOf_37 : decode cX3_greatestOf 37 = .ok (.ireturn, 1) := by decide +kernel
theorem dX3_greatestOf_38 : decode cX3_greatestOf 38 = .ok (.sipush 200, 3) := by decide +kernel
theorem dX3_greatestOf_41 : decode cX3_greatestOf 41 = .ok (.ireturn, 1) := by decide +kernel
theorem dX3_greatestOf_42 : decode cX3_greatestOf 42 = .ok (.bipush 20, 2) := by decide +kernel
theorem dX3_greatestOf_44 : decode cX3_greatestOf 44 = .ok (.ireturn, 1) := by decide +kernel
theorem dX3_greatestOf_45 : decode cX3_greatestOf 45 = .ok (.iconst 1, 1) := by decide +kernel
theorem dX3_greatestOf_46 : decode cX3_greatestOf 46 = .ok (.ireturn, 1) := by decide +kernel
