theorem dX4_call_0 : decode cX4_call 0 = .ok (.iload_n 1, 1) := by decide +kernel
theorem dX4_call_1 : decode cX4_call 1 = .ok (.ifCond .lt 12, 3) := by decide +kernel
theorem dX4_call_4 : decode cX4_call 4 = .ok (.iload_n 2, 1) := by decide +kernel
theorem dX4_call_5 : decode cX4_call 5 = .ok (.ifCond .lt 8, 3) := by decide +kernel
theorem dX4_call_8 : decode cX4_call 8 = .ok (.iload_n 3, 1) := by decide +kernel
theorem dX4_call_9 : decode cX4_call 9 = .ok (.iconst 1, 1) := by decide +kernel
theorem dX4_call_10 : decode cX4_call 10 = .ok (.if_icmp .ge 10, 3) := by decide +kernel
theorem dX4_call_13 : decode cX4_call 13 = .ok (.aload_n 0, 1) := by decide +kernel
theorem dX4_call_14 : decode cX4_call 14 = .ok (.bipush (-4), 2) := by decide +kernel
theorem dX4_call_16 : decode cX4_call 16 = .ok (.invokevirtual 124, 3) := by decide +kernel
theorem dX4_call_19 : decode cX4_call 19 = .ok (.ireturn, 1) := by decide +kernel
theorem dX4_call_20 : decode cX4_call 20 = .ok (.iload_n 1, 1) := by decide +kernel
theorem dX4_call_21 : decode cX4_call 21 = .ok (.ldc 143, 2) := by decide +kernel
theorem dX4_call_23 : decode cX4_call 23 = .ok (.if_icmp .ge 25, 3) := by decide +kernel
theorem dX4_call_26 : decode cX4_call 26 = .ok (.iload_n 2, 1) := by decide +kernel
theorem dX4_call_27 : decode cX4_call 27 = .ok (.iconst 3, 1) := by decide +kernel
theorem dX4_call_28 : decode cX4_call 28 = .ok (.if_icmp .gt 20, 3) := by decide +kernel
theorem dX4_call_31 : decode cX4_call 31 = .ok (.iload_n 3, 1) := by decide +kernel
theorem dX4_call_32 : decode cX4_call 32 = .ok (.sipush 2000, 3) := by decide +kernel
theorem dX4_call_35 : decode cX4_call 35 = .ok (.if_icmp .gt 13, 3) := by decide +kernel
theorem dX4_call_38 : decode cX4_call 38 = .ok (.aload_n 0, 1) := by decide +kernel
theorem dX4_call_39 : decode cX4_call 39 = .ok (.getfield 121, 3) := by decide +kernel
theorem dX4_call_42 : decode cX4_call 42 = .ok (.sipush 200, 3) := by decide +kernel
theorem dX4_call_45 : decode cX4_call 45 = .ok (.if_icmp .ne 10, 3) := by decide +kernel
theorem dX4_call_48 : decode cX4_call 48 = .ok (.aload_n 0, 1) := by decide +kernel
theorem dX4_call_49 : decode cX4_call 49 = .ok (.bipush (-6), 2) := by decide +kernel
theorem dX4_call_51 : decode cX4_call 51 = .ok (.invokevirtual 124, 3) := by decide +kernel
theorem dX4_call_54 : decode cX4_call 54 = .ok (.ireturn, 1) := by decide +kernel
theorem dX4_call_55 : decode cX4_call 55 = .ok (.aload_n 0, 1) := by decide +kernel
theorem dX4_call_56 : decode cX4_call 56 = .ok (.getfield 121, 3) := by decide +kernel
theorem dX4_call_59 : decode cX4_call 59 = .ok (.istore 5, 2) := by decide +kernel
theorem dX4_call_61 : decode cX4_call 61 = .ok (.aload_n 0, 1) := by decide +kernel
theorem dX4_call_62 : decode cX4_call 62 = .ok (.dup, 1) := by decide +kernel
theorem dX4_call_63 : decode cX4_call 63 = .ok (.getfield 121, 3) := by decide +kernel
theorem dX4_call_66 : decode cX4_call 66 = .ok (.iconst 1, 1) := by decide +kernel
theorem dX4_call_67 : decode cX4_call 67 = .ok (.iadd, 1) := by decide +kernel
theorem dX4_call_68 : decode cX4_call 68 = .ok (.putfield 121, 3) := by decide +kernel
theorem dX4_call_71 : decode cX4_call 71 = .ok (.aload_n 0, 1) := by decide +kernel
theorem dX4_call_72 : decode cX4_call 72 = .ok (.getfield 68, 3) := by decide +kernel
theorem dX4_call_75 : decode cX4_call 75 = .ok (.iload 5, 2) := by decide +kernel
theorem dX4_call_77 : decode cX4_call 77 = .ok (.iload_n 1, 1) := by decide +kernel
theorem dX4_call_78 : decode cX4_call 78 = .ok (.iastore, 1) := by decide +kernel
theorem dX4_call_79 : decode cX4_call 79 = .ok (.aload_n 0, 1) := by decide +kernel
theorem dX4_call_80 : decode cX4_call 80 = .ok (.getfield 71, 3) := by decide +kernel
theorem dX4_call_83 : decode cX4_call 83 = .ok (.iload 5, 2) := by decide +kernel
theorem dX4_call_85 : decode cX4_call 85 = .ok (.iload_n 2, 1) := by decide +kernel
theorem dX4_call_86 : decode cX4_call 86 = .ok (.iastore, 1) := by decide +kernel
theorem dX4_call_87 : decode cX4_call 87 = .ok (.aload_n 0, 1) := by decide +kernel
theorem dX4_call_88 : decode cX4_call 88 = .ok (.getfield 74, 3) := by decide +kernel
theorem dX4_call_91 : decode cX4_call 91 = .ok (.iload 5, 2) := by decide +kernel
theorem dX4_call_93 : decode cX4_call 93 = .ok (.aload_n 0, 1) := by decide +kernel
theorem dX4_call_94 : decode cX4_call 94 = .ok (.getfield 163, 3) := by decide +kernel
theorem dX4_call_97 : decode cX4_call 97 = .ok (.iload_n 3, 1) := by decide +kernel
theorem dX4_call_98 : decode cX4_call 98 = .ok (.iadd, 1) := by decide +kernel
theorem dX4_call_99 : decode cX4_call 99 = .ok (.iastore, 1) := by decide +kernel
theorem dX4_call_100 : decode cX4_call 100 = .ok (.aload_n 0, 1) := by decide +kernel
theorem dX4_call_101 : decode cX4_call 101 = .ok (.getfield 95, 3) := by decide +kernel
theorem dX4_call_104 : decode cX4_call 104 = .ok (.iload 5, 2) := by decide +kernel
theorem dX4_call_106 : decode cX4_call 106 = .ok (.iload 4, 2) := by decide +kernel
theorem dX4_call_108 : decode cX4_call 108 = .ok (.bastore, 1) := by decide +kernel
theorem dX4_call_109 : decode cX4_call 109 = .ok (.aload_n 0, 1) := by decide +kernel
theorem dX4_call_110 : decode cX4_call 110 = .ok (.getfield 86, 3) := by decide +kernel
theorem dX4_call_113 : decode cX4_call 113 = .ok (.iload 5, 2) := by decide +kernel
theorem dX4_call_115 : decode cX4_call 115 = .ok (.aload_n 0, 1) := by decide +kernel
theorem dX4_call_116 : decode cX4_call 116 = .ok (.getfield 163, 3) := by decide +kernel
theorem dX4_call_119 : decode cX4_call 119 = .ok (.iastore, 1) := by decide +kernel
theorem dX4_call_120 : decode cX4_call 120 = .ok (.aload_n 0, 1) := by decide +kernel
theorem dX4_call_121 : decode cX4_call 121 = .ok (.getfield 89, 3) := by decide +kernel
theorem dX4_call_124 : decode cX4_call 124 = .ok (.iload 5, 2) := by decide +kernel
theorem dX4_call_126 : decode cX4_call 126 = .ok (.bipush (-9), 2) := by decide +kernel
theorem dX4_call_128 : decode cX4_call 128 = .ok (.iastore, 1) := by decide +kernel
theorem dX4_call_129 : decode cX4_call 129 = .ok (.aload_n 0, 1) := by decide +kernel
theorem dX4_call_130 : decode cX4_call 130 = .ok (.getfield 92, 3) := by decide +kernel
theorem dX4_call_133 : decode cX4_call 133 = .ok (.iload 5, 2) := by decide +kernel
theorem dX4_call_135 : decode cX4_call 135 = .ok (.bipush (-9), 2) := by decide +kernel
theorem dX4_call_137 : decode cX4_call 137 = .ok (.iastore, 1) := by decide +kernel
theorem dX4_call_138 : decode cX4_call 138 = .ok (.aload_n 0, 1) := by decide +kernel
theorem dX4_call_139 : decode cX4_call 139 = .ok (.iload 5, 2) := by decide +kernel
theorem dX4_call_141 : decode cX4_call 141 = .ok (.invokevirtual 178, 3) := by decide +kernel
theorem dX4_call_144 : decode cX4_call 144 = .ok (.istore 6, 2) := by decide +kernel
theorem dX4_call_146 : decode cX4_call 146 = .ok (.iload 5, 2) := by decide +kernel
theorem dX4_call_148 : decode cX4_call 148 = .ok (.ireturn, 1) := by decide +kernel
theorem dX4_outsNow_0 : decode cX4_outsNow 0 = .ok (.iconst 0, 1) := by decide +kernel
theorem dX4_outsNow_1 : decode cX4_outsNow 1 = .ok (.istore_n 2, 1) := by decide +kernel
theorem dX4_outsNow_2 : decode cX4_outsNow 2 = .ok (.iconst 0, 1) := by decide +kernel
theorem dX4_outsNow_3 : decode cX4_outsNow 3 = .ok (.istore_n 3, 1) := by decide +kernel
theorem dX4_outsNow_4 : decode cX4_outsNow 4 = .ok (.iload_n 3, 1) := by decide +kernel
theorem dX4_outsNow_5 : decode cX4_outsNow 5 = .ok (.aload_n 0, 1) := by decide +kernel
theorem dX4_outsNow_6 : decode cX4_outsNow 6 = .ok (.getfield 114, 3) := by decide +kernel
theorem dX4_outsNow_9 : decode cX4_outsNow 9 = .ok (.if_icmp .ge 50, 3) := by decide +kernel
theorem dX4_outsNow_12 : decode cX4_outsNow 12 = .ok (.iload_n 2, 1) := by decide +kernel
theorem dX4_outsNow_13 : decode cX4_outsNow 13 = .ok (.aload_n 0, 1) := by decide +kernel
theorem dX4_outsNow_14 : decode cX4_outsNow 14 = .ok (.getfield 38, 3) := by decide +kernel
theorem dX4_outsNow_17 : decode cX4_outsNow 17 = .ok (.iload_n 3, 1) := by decide +kernel
theorem dX4_outsNow_18 : decode cX4_outsNow 18 = .ok (.iaload, 1) := by decide +kernel
theorem dX4_outsNow_19 : decode cX4_outsNow 19 = .ok (.iconst 1, 1) := by decide +kernel
theorem dX4_outsNow_20 : decode cX4_outsNow 20 = .ok (.if_icmp .eq 26, 3) := by decide +kernel
theorem dX4_outsNow_23 : decode cX4_outsNow 23 = .ok (.iload_n 1, 1) := by decide +kernel
theorem dX4_outsNow_24 : decode cX4_outsNow 24 = .ok (.ifCond .eq 26, 3) := by decide +kernel
theorem dX4_outsNow_27 : decode cX4_outsNow 27 = .ok (.aload_n 0, 1) := by decide +kernel
theorem dX4_outsNow_28 : decode cX4_outsNow 28 = .ok (.getfield 38, 3) := by decide +kernel
theorem dX4_outsNow_31 : decode cX4_outsNow 31 = .ok (.iload_n 3, 1) := by decide +kernel
theorem dX4_outsNow_32 : decode cX4_outsNow 32 = .ok (.iaload, 1) := by decide +kernel
theorem dX4_outsNow_33 : decode cX4_outsNow 33 = .ok (.ifCond .eq 13, 3) := by decide +kernel
theorem dX4_outsNow_36 : decode cX4_outsNow 36 = .ok (.aload_n 0, 1) := by decide +kernel
theorem dX4_outsNow_37 : decode cX4_outsNow 37 = .ok (.getfield 38, 3) := by decide +kernel
theorem dX4_outsNow_40 : decode cX4_outsNow 40 = .ok (.iload_n 3, 1) := by decide +kernel
theorem dX4_outsNow_41 : decode cX4_outsNow 41 = .ok (.iaload, 1) := by decide +kernel
theorem dX4_outsNow_42 : decode cX4_outsNow 42 = .ok (.iconst 2, 1) := by decide +kernel
theorem dX4_outsNow_43 : decode cX4_outsNow 43 = .ok (.if_icmp .ne 7, 3) := by decide +kernel
theorem dX4_outsNow_46 : decode cX4_outsNow 46 = .ok (.iconst 1, 1) := by decide +kernel
theorem dX4_outsNow_47 : decode cX4_outsNow 47 = .ok (.goto 4, 3) := by decide +kernel
theorem dX4_outsNow_50 : decode cX4_outsNow 50 = .ok (.iconst 0, 1) := by decide +kernel
theorem dX4_outsNow_51 : decode cX4_outsNow 51 = .ok (.iadd, 1) := by decide +kernel
theorem dX4_outsNow_52 : decode cX4_outsNow 52 = .ok (.istore_n 2, 1) := by decide +kernel
theorem dX4_outsNow_53 : decode cX4_outsNow 53 = .ok (.iinc 3 1, 3) := by decide +kernel
theorem dX4_outsNow_56 : decode cX4_outsNow 56 = .ok (.goto (-52), 3) := by decide +kernel
theorem dX4_outsNow_59 : decode cX4_outsNow 59 = .ok (.iload_n 2, 1) := by decide +kernel
theorem dX4_outsNow_60 : decode cX4_outsNow 60 = .ok (.ireturn, 1) := by decide +kernel
theorem dX4_failure_0 : decode cX4_failure 0 = .ok (.aload_n 0, 1) := by decide +kernel
theorem dX4_failure_1 : decode cX4_failure 1 = .ok (.getfield 50, 3) := by decide +kernel
theorem dX4_failure_4 : decode cX4_failure 4 = .ok (.iload_n 1, 1) := by decide +kernel
theorem dX4_failure_5 : decode cX4_failure 5 = .ok (.dup2, 1) := by decide +kernel
theorem dX4_failure_6 : decode cX4_failure 6 = .ok (.iaload, 1) := by decide +kernel
theorem dX4_failure_7 : decode cX4_failure 7 = .ok (.iconst 1, 1) := by decide +kernel
theorem dX4_failure_8 : decode cX4_failure 8 = .ok (.iadd, 1) := by decide +kernel
theorem dX4_failure_9 : decode cX4_failure 9 = .ok (.iastore, 1) := by decide +kernel
theorem dX4_failure_10 : decode cX4_failure 10 = .ok (.aload_n 0, 1) := by decide +kernel
theorem dX4_failure_11 : decode cX4_failure 11 = .ok (.getfield 53, 3) := by decide +kernel
theorem dX4_failure_14 : decode cX4_failure 14 = .ok (.iload_n 1, 1) := by decide +kernel
theorem dX4_failure_15 : decode cX4_failure 15 = .ok (.dup2, 1) := by decide +kernel
theorem dX4_failure_16 : decode cX4_failure 16 = .ok (.iaload, 1) := by decide +kernel
theorem dX4_failure_17 : decode cX4_failure 17 = .ok (.iconst 1, 1) := by decide +kernel
theorem dX4_failure_18 : decode cX4_failure 18 = .ok (.iadd, 1) := by decide +kernel
theorem dX4_failure_19 : decode cX4_failure 19 = .ok (.iastore, 1) := by decide +kernel
theorem dX4_failure_20 : decode cX4_failure 20 = .ok (.aload_n 0, 1) := by decide +kernel
theorem dX4_failure_21 : decode cX4_failure 21 = .ok (.getfield 38, 3) := by decide +kernel
theorem dX4_failure_24 : decode cX4_failure 24 = .ok (.iload_n 1, 1) := by decide +kernel
theorem dX4_failure_25 : decode cX4_failure 25 = .ok (.iaload, 1) := by decide +kernel
theorem dX4_failure_26 : decode cX4_failure 26 = .ok (.iconst 2, 1) := by decide +kernel
theorem dX4_failure_27 : decode cX4_failure 27 = .ok (.if_icmp .eq 25, 3) := by decide +kernel
theorem dX4_failure_30 : decode cX4_failure 30 = .ok (.aload_n 0, 1) := by decide +kernel
theorem dX4_failure_31 : decode cX4_failure 31 = .ok (.getfield 38, 3) := by decide +kernel
theorem dX4_failure_34 : decode cX4_failure 34 = .ok (.iload_n 1, 1) := by decide +kernel
theorem dX4_failure_35 : decode cX4_failure 35 = .ok (.iaload, 1) := by decide +kernel
theorem dX4_failure_36 : decode cX4_failure 36 = .ok (.ifCond .ne 20, 3) := by decide +kernel
theorem dX4_failure_39 : decode cX4_failure 39 = .ok (.aload_n 0, 1) := by decide +kernel
theorem dX4_failure_40 : decode cX4_failure 40 = .ok (.getfield 53, 3) := by decide +kernel
theorem dX4_failure_43 : decode cX4_failure 43 = .ok (.iload_n 1, 1) := by decide +kernel
theorem dX4_failure_44 : decode cX4_failure 44 = .ok (.iaload, 1) := by decide +kernel
theorem dX4_failure_45 : decode cX4_failure 45 = .ok (.aload_n 0, 1) := by decide +kernel
theorem dX4_failure_46 : decode cX4_failure 46 = .ok (.getfield 13, 3) := by decide +kernel
theorem dX4_failure_49 : decode cX4_failure 49 = .ok (.if_icmp .lt 7, 3) := by decide +kernel
theorem dX4_failure_52 : decode cX4_failure 52 = .ok (.iconst 1, 1) := by decide +kernel
theorem dX4_failure_53 : decode cX4_failure 53 = .ok (.goto 4, 3) := by decide +kernel
theorem dX4_failure_56 : decode cX4_failure 56 = .ok (.iconst 0, 1) := by decide +kernel
theorem dX4_failure_57 : decode cX4_failure 57 = .ok (.istore_n 2, 1) := by decide +kernel
theorem dX4_failure_58 : decode cX4_failure 58 = .ok (.iload_n 2, 1) := by decide +kernel
theorem dX4_failure_59 : decode cX4_failure 59 = .ok (.ifCond .ne 4, 3) := by decide +kernel
theorem dX4_failure_62 : decode cX4_failure 62 = .ok (.return_, 1) := by decide +kernel
theorem dX4_failure_63 : decode cX4_failure 63 = .ok (.aload_n 0, 1) := by decide +kernel
theorem dX4_failure_64 : decode cX4_failure 64 = .ok (.getfield 53, 3) := by decide +kernel
theorem dX4_failure_67 : decode cX4_failure 67 = .ok (.iload_n 1, 1) := by decide +kernel
theorem dX4_failure_68 : decode cX4_failure 68 = .ok (.iconst 0, 1) := by decide +kernel
theorem dX4_failure_69 : decode cX4_failure 69 = .ok (.iastore, 1) := by decide +kernel
theorem dX4_failure_70 : decode cX4_failure 70 = .ok (.aload_n 0, 1) := by decide +kernel
theorem dX4_failure_71 : decode cX4_failure 71 = .ok (.iconst 0, 1) := by decide +kernel
theorem dX4_failure_72 : decode cX4_failure 72 = .ok (.invokevirtual 181, 3) := by decide +kernel
theorem dX4_failure_75 : decode cX4_failure 75 = .ok (.iconst 1, 1) := by decide +kernel
theorem dX4_failure_76 : decode cX4_failure 76 = .ok (.iadd, 1) := by decide +kernel
theorem dX4_failure_77 : decode cX4_failure 77 = .ok (.aload_n 0, 1) := by decide +kernel
theorem dX4_failure_78 : decode cX4_failure 78 = .ok (.iconst 1, 1) := by decide +kernel
theorem dX4_failure_79 : decode cX4_failure 79 = .ok (.invokevirtual 181, 3) := by decide +kernel
theorem dX4_failure_82 : decode cX4_failure 82 = .ok (.iconst 2, 1) := by decide +kernel
theorem dX4_failure_83 : decode cX4_failure 83 = .ok (.idiv, 1) := by decide +kernel
theorem dX4_failure_84 : decode cX4_failure 84 = .ok (.if_icmp .le 11, 3) := by decide +kernel
theorem dX4_failure_87 : decode cX4_failure 87 = .ok (.aload_n 0, 1) := by decide +kernel
theorem dX4_failure_88 : decode cX4_failure 88 = .ok (.getfield 38, 3) := by decide +kernel
theorem dX4_failure_91 : decode cX4_failure 91 = .ok (.iload_n 1, 1) := by decide +kernel
theorem dX4_failure_92 : decode cX4_failure 92 = .ok (.iconst 0, 1) := by decide +kernel
theorem dX4_failure_93 : decode cX4_failure 93 = .ok (.iastore, 1) := by decide +kernel
theorem dX4_failure_94 : decode cX4_failure 94 = .ok (.return_, 1) := by decide +kernel
theorem dX4_failure_95 : decode cX4_failure 95 = .ok (.aload_n 0, 1) := by decide +kernel
theorem dX4_failure_96 : decode cX4_failure 96 = .ok (.getfield 38, 3) := by decide +kernel
theorem dX4_failure_99 : decode cX4_failure 99 = .ok (.iload_n 1, 1) := by decide +kernel
theorem dX4_failure_100 : decode cX4_failure 100 = .ok (.iconst 1, 1) := by decide +kernel
theorem dX4_failure_101 : decode cX4_failure 101 = .ok (.iastore, 1) := by decide +kernel
theorem dX4_failure_102 : decode cX4_failure 102 = .ok (.aload_n 0, 1) := by decide +kernel
theorem dX4_failure_103 : decode cX4_failure 103 = .ok (.getfield 56, 3) := by decide +kernel
theorem dX4_failure_106 : decode cX4_failure 106 = .ok (.iload_n 1, 1) := by decide +kernel
theorem dX4_failure_107 : decode cX4_failure 107 = .ok (.aload_n 0, 1) := by decide +kernel
theorem dX4_failure_108 : decode cX4_failure 108 = .ok (.getfield 163, 3) := by decide +kernel
theorem dX4_failure_111 : decode cX4_failure 111 = .ok (.aload_n 0, 1) := by decide +kernel
theorem dX4_failure_112 : decode cX4_failure 112 = .ok (.getfield 59, 3) := by decide +kernel
theorem dX4_failure_115 : decode cX4_failure 115 = .ok (.iload_n 1, 1) := by decide +kernel
theorem dX4_failure_116 : decode cX4_failure 116 = .ok (.iaload, 1) := by decide +kernel
theorem dX4_failure_117 : decode cX4_failure 117 = .ok (.iadd, 1) := by decide +kernel
theorem dX4_failure_118 : decode cX4_failure 118 = .ok (.iastore, 1) := by decide +kernel
theorem dX4_failure_119 : decode cX4_failure 119 = .ok (.aload_n 0, 1) := by decide +kernel
theorem dX4_failure_120 : decode cX4_failure 120 = .ok (.getfield 59, 3) := by decide +kernel
theorem dX4_failure_123 : decode cX4_failure 123 = .ok (.iload_n 1, 1) := by decide +kernel
theorem dX4_failure_124 : decode cX4_failure 124 = .ok (.sipush 320, 3) := by decide +kernel
theorem dX4_failure_127 : decode cX4_failure 127 = .ok (.iconst 2, 1) := by decide +kernel
theorem dX4_failure_128 : decode cX4_failure 128 = .ok (.aload_n 0, 1) := by decide +kernel
theorem dX4_failure_129 : decode cX4_failure 129 = .ok (.getfield 59, 3) := by decide +kernel
theorem dX4_failure_132 : decode cX4_failure 132 = .ok (.iload_n 1, 1) := by decide +kernel
theorem dX4_failure_133 : decode cX4_failure 133 = .ok (.iaload, 1) := by decide +kernel
theorem dX4_failure_134 : decode cX4_failure 134 = .ok (.imul, 1) := by decide +kernel
theorem dX4_failure_135 : decode cX4_failure 135 = .ok (.invokestatic 185, 3) := by decide +kernel
theorem dX4_failure_138 : decode cX4_failure 138 = .ok (.iastore, 1) := by decide +kernel
theorem dX4_failure_139 : decode cX4_failure 139 = .ok (.aload_n 0, 1) := by decide +kernel
theorem dX4_failure_140 : decode cX4_failure 140 = .ok (.getfield 62, 3) := by decide +kernel
theorem dX4_failure_143 : decode cX4_failure 143 = .ok (.iload_n 1, 1) := by decide +kernel
theorem dX4_failure_144 : decode cX4_failure 144 = .ok (.dup2, 1) := by decide +kernel
theorem dX4_failure_145 : decode cX4_failure 145 = .ok (.iaload, 1) := by decide +kernel
theorem dX4_failure_146 : decode cX4_failure 146 = .ok (.iconst 1, 1) := by decide +kernel
theorem dX4_failure_147 : decode cX4_failure 147 = .ok (.iadd, 1) := by decide +kernel
theorem dX4_failure_148 : decode cX4_failure 148 = .ok (.iastore, 1) := by decide +kernel
theorem dX4_failure_149 : decode cX4_failure 149 = .ok (.return_, 1) := by decide +kernel
theorem dX4_answer_0 : decode cX4_answer 0 = .ok (.aload_n 0, 1) := by decide +kernel
theorem dX4_answer_1 : decode cX4_answer 1 = .ok (.getfield 47, 3) := by decide +kernel
theorem dX4_answer_4 : decode cX4_answer 4 = .ok (.iload_n 1, 1) := by decide +kernel
theorem dX4_answer_5 : decode cX4_answer 5 = .ok (.dup2, 1) := by decide +kernel
theorem dX4_answer_6 : decode cX4_answer 6 = .ok (.iaload, 1) := by decide +kernel
theorem dX4_answer_7 : decode cX4_answer 7 = .ok (.iconst 1, 1) := by decide +kernel
theorem dX4_answer_8 : decode cX4_answer 8 = .ok (.iadd, 1) := by decide +kernel
theorem dX4_answer_9 : decode cX4_answer 9 = .ok (.iastore, 1) := by decide +kernel
theorem dX4_answer_10 : decode cX4_answer 10 = .ok (.aload_n 0, 1) := by decide +kernel
theorem dX4_answer_11 : decode cX4_answer 11 = .ok (.getfield 53, 3) := by decide +kernel
theorem dX4_answer_14 : decode cX4_answer 14 = .ok (.iload_n 1, 1) := by decide +kernel
theorem dX4_answer_15 : decode cX4_answer 15 = .ok (.iconst 0, 1) := by decide +kernel
theorem dX4_answer_16 : decode cX4_answer 16 = .ok (.iastore, 1) := by decide +kernel
theorem dX4_answer_17 : decode cX4_answer 17 = .ok (.aload_n 0, 1) := by decide +kernel
theorem dX4_answer_18 : decode cX4_answer 18 = .ok (.getfield 59, 3) := by decide +kernel
theorem dX4_answer_21 : decode cX4_answer 21 = .ok (.iload_n 1, 1) := by decide +kernel
theorem dX4_answer_22 : decode cX4_answer 22 = .ok (.bipush 10, 2) := by decide +kernel
theorem dX4_answer_24 : decode cX4_answer 24 = .ok (.iastore, 1) := by decide +kernel
theorem dX4_answer_25 : decode cX4_answer 25 = .ok (.aload_n 0, 1) := by decide +kernel
theorem dX4_answer_26 : decode cX4_answer 26 = .ok (.getfield 38, 3) := by decide +kernel
theorem dX4_answer_29 : decode cX4_answer 29 = .ok (.iload_n 1, 1) := by decide +kernel
theorem dX4_answer_30 : decode cX4_answer 30 = .ok (.iaload, 1) := by decide +kernel
theorem dX4_answer_31 : decode cX4_answer 31 = .ok (.iconst 2, 1) := by decide +kernel
theorem dX4_answer_32 : decode cX4_answer 32 = .ok (.if_icmp .ne 10, 3) := by decide +kernel
theorem dX4_answer_35 : decode cX4_answer 35 = .ok (.aload_n 0, 1) := by decide +kernel
theorem dX4_answer_36 : decode cX4_answer 36 = .ok (.getfield 38, 3) := by decide +kernel
theorem dX4_answer_39 : decode cX4_answer 39 = .ok (.iload_n 1, 1) := by decide +kernel
theorem dX4_answer_40 : decode cX4_answer 40 = .ok (.iconst 0, 1) := by decide +kernel
theorem dX4_answer_41 : decode cX4_answer 41 = .ok (.iastore, 1) := by decide +kernel
theorem dX4_answer_42 : decode cX4_answer 42 = .ok (.return_, 1) := by decide +kernel
theorem dX4_takes_0 : decode cX4_takes 0 = .ok (.aload_n 0, 1) := by decide +kernel
theorem dX4_takes_1 : decode cX4_takes 1 = .ok (.getfield 41, 3) := by decide +kernel
theorem dX4_takes_4 : decode cX4_takes 4 = .ok (.aload_n 0, 1) := by decide +kernel
theorem dX4_takes_5 : decode cX4_takes 5 = .ok (.getfield 99, 3) := by decide +kernel
theorem dX4_takes_8 : decode cX4_takes 8 = .ok (.iconst 2, 1) := by decide +kernel
theorem dX4_takes_9 : decode cX4_takes 9 = .ok (.iload_n 1, 1) := by decide +kernel
theorem dX4_takes_10 : decode cX4_takes 10 = .ok (.imul, 1) := by decide +kernel
theorem dX4_takes_11 : decode cX4_takes 11 = .ok (.iload_n 2, 1) := by decide +kernel
theorem dX4_takes_12 : decode cX4_takes 12 = .ok (.iadd, 1) := by decide +kernel
theorem dX4_takes_13 : decode cX4_takes 13 = .ok (.iaload, 1) := by decide +kernel
theorem dX4_takes_14 : decode cX4_takes 14 = .ok (.dup2, 1) := by decide +kernel
theorem dX4_takes_15 : decode cX4_takes 15 = .ok (.iaload, 1) := by decide +kernel
theorem dX4_takes_16 : decode cX4_takes 16 = .ok (.iconst 1, 1) := by decide +kernel
theorem dX4_takes_17 : decode cX4_takes 17 = .ok (.isub, 1) := by decide +kernel
theorem dX4_takes_18 : decode cX4_takes 18 = .ok (.iastore, 1) := by decide +kernel
theorem dX4_takes_19 : decode cX4_takes 19 = .ok (.aload_n 0, 1) := by decide +kernel
theorem dX4_takes_20 : decode cX4_takes 20 = .ok (.getfield 80, 3) := by decide +kernel
theorem dX4_takes_23 : decode cX4_takes 23 = .ok (.iload_n 1, 1) := by decide +kernel
theorem dX4_takes_24 : decode cX4_takes 24 = .ok (.dup2, 1) := by decide +kernel
theorem dX4_takes_25 : decode cX4_takes 25 = .ok (.iaload, 1) := by decide +kernel
theorem dX4_takes_26 : decode cX4_takes 26 = .ok (.iconst 1, 1) := by decide +kernel
theorem dX4_takes_27 : decode cX4_takes 27 = .ok (.isub, 1) := by decide +kernel
theorem dX4_takes_28 : decode cX4_takes 28 = .ok (.iastore, 1) := by decide +kernel
theorem dX4_takes_29 : decode cX4_takes 29 = .ok (.iload_n 2, 1) := by decide +kernel
theorem dX4_takes_30 : decode cX4_takes 30 = .ok (.iconst 1, 1) := by decide +kernel
theorem dX4_takes_31 : decode cX4_takes 31 = .ok (.if_icmp .eq 12, 3) := by decide +kernel
theorem dX4_takes_34 : decode cX4_takes 34 = .ok (.aload_n 0, 1) := by decide +kernel
theorem dX4_takes_35 : decode cX4_takes 35 = .ok (.getfield 80, 3) := by decide +kernel
theorem dX4_takes_38 : decode cX4_takes 38 = .ok (.iload_n 1, 1) := by decide +kernel
theorem dX4_takes_39 : decode cX4_takes 39 = .ok (.iaload, 1) := by decide +kernel
theorem dX4_takes_40 : decode cX4_takes 40 = .ok (.ifCond .ne 4, 3) := by decide +kernel
theorem dX4_takes_43 : decode cX4_takes 43 = .ok (.return_, 1) := by decide +kernel
theorem dX4_takes_44 : decode cX4_takes 44 = .ok (.iconst 2, 1) := by decide +kernel
theorem dX4_takes_45 : decode cX4_takes 45 = .ok (.iload_n 1, 1) := by decide +kernel
theorem dX4_takes_46 : decode cX4_takes 46 = .ok (.imul, 1) := by decide +kernel
theorem dX4_takes_47 : decode cX4_takes 47 = .ok (.istore_n 3, 1) := by decide +kernel
theorem dX4_takes_48 : decode cX4_takes 48 = .ok (.aload_n 0, 1) := by decide +kernel
theorem dX4_takes_49 : decode cX4_takes 49 = .ok (.getfield 99, 3) := by decide +kernel
theorem dX4_takes_52 : decode cX4_takes 52 = .ok (.iload_n 3, 1) := by decide +kernel
theorem dX4_takes_53 : decode cX4_takes 53 = .ok (.aload_n 0, 1) := by decide +kernel
theorem dX4_takes_54 : decode cX4_takes 54 = .ok (.getfield 99, 3) := by decide +kernel
theorem dX4_takes_57 : decode cX4_takes 57 = .ok (.iload_n 3, 1) := by decide +kernel
theorem dX4_takes_58 : decode cX4_takes 58 = .ok (.iconst 1, 1) := by decide +kernel
theorem dX4_takes_59 : decode cX4_takes 59 = .ok (.iadd, 1) := by decide +kernel
theorem dX4_takes_60 : decode cX4_takes 60 = .ok (.iaload, 1) := by decide +kernel
theorem dX4_takes_61 : decode cX4_takes 61 = .ok (.iastore, 1) := by decide +kernel
theorem dX4_takes_62 : decode cX4_takes 62 = .ok (.aload_n 0, 1) := by decide +kernel
theorem dX4_takes_63 : decode cX4_takes 63 = .ok (.getfield 102, 3) := by decide +kernel
theorem dX4_takes_66 : decode cX4_takes 66 = .ok (.iload_n 3, 1) := by decide +kernel
theorem dX4_takes_67 : decode cX4_takes 67 = .ok (.aload_n 0, 1) := by decide +kernel
theorem dX4_takes_68 : decode cX4_takes 68 = .ok (.getfield 102, 3) := by decide +kernel
theorem dX4_takes_71 : decode cX4_takes 71 = .ok (.iload_n 3, 1) := by decide +kernel
theorem dX4_takes_72 : decode cX4_takes 72 = .ok (.iconst 1, 1) := by decide +kernel
theorem dX4_takes_73 : decode cX4_takes 73 = .ok (.iadd, 1) := by decide +kernel
theorem dX4_takes_74 : decode cX4_takes 74 = .ok (.iaload, 1) := by decide +kernel
theorem dX4_takes_75 : decode cX4_takes 75 = .ok (.iastore, 1) := by decide +kernel
theorem dX4_takes_76 : decode cX4_takes 76 = .ok (.aload_n 0, 1) := by decide +kernel
theorem dX4_takes_77 : decode cX4_takes 77 = .ok (.getfield 105, 3) := by decide +kernel
theorem dX4_takes_80 : decode cX4_takes 80 = .ok (.iload_n 3, 1) := by decide +kernel
theorem dX4_takes_81 : decode cX4_takes 81 = .ok (.aload_n 0, 1) := by decide +kernel
theorem dX4_takes_82 : decode cX4_takes 82 = .ok (.getfield 105, 3) := by decide +kernel
theorem dX4_takes_85 : decode cX4_takes 85 = .ok (.iload_n 3, 1) := by decide +kernel
theorem dX4_takes_86 : decode cX4_takes 86 = .ok (.iconst 1, 1) := by decide +kernel
theorem dX4_takes_87 : decode cX4_takes 87 = .ok (.iadd, 1) := by decide +kernel
theorem dX4_takes_88 : decode cX4_takes 88 = .ok (.iaload, 1) := by decide +kernel
theorem dX4_takes_89 : decode cX4_takes 89 = .ok (.iastore, 1) := by decide +kernel
theorem dX4_takes_90 : decode cX4_takes 90 = .ok (.aload_n 0, 1) := by decide +kernel
theorem dX4_takes_91 : decode cX4_takes 91 = .ok (.getfield 108, 3) := by decide +kernel
theorem dX4_takes_94 : decode cX4_takes 94 = .ok (.iload_n 3, 1) := by decide +kernel
theorem dX4_takes_95 : decode cX4_takes 95 = .ok (.aload_n 0, 1) := by decide +kernel
theorem dX4_takes_96 : decode cX4_takes 96 = .ok (.getfield 108, 3) := by decide +kernel
theorem dX4_takes_99 : decode cX4_takes 99 = .ok (.iload_n 3, 1) := by decide +kernel
theorem dX4_takes_100 : decode cX4_takes 100 = .ok (.iconst 1, 1) := by decide +kernel
theorem dX4_takes_101 : decode cX4_takes 101 = .ok (.iadd, 1) := by decide +kernel
theorem dX4_takes_102 : decode cX4_takes 102 = .ok (.baload, 1) := by decide +kernel
theorem dX4_takes_103 : decode cX4_takes 103 = .ok (.bastore, 1) := by decide +kernel
theorem dX4_takes_104 : decode cX4_takes 104 = .ok (.return_, 1) := by decide +kernel
theorem dX4_ends_0 : decode cX4_ends 0 = .ok (.aload_n 0, 1) := by decide +kernel
theorem dX4_ends_1 : decode cX4_ends 1 = .ok (.getfield 80, 3) := by decide +kernel
theorem dX4_ends_4 : decode cX4_ends 4 = .ok (.iload_n 1, 1) := by decide +kernel
theorem dX4_ends_5 : decode cX4_ends 5 = .ok (.iaload, 1) := by decide +kernel
theorem dX4_ends_6 : decode cX4_ends 6 = .ok (.ifCond .le 12, 3) := by decide +kernel
theorem dX4_ends_9 : decode cX4_ends 9 = .ok (.aload_n 0, 1) := by decide +kernel
theorem dX4_ends_10 : decode cX4_ends 10 = .ok (.iload_n 1, 1) := by decide +kernel
theorem dX4_ends_11 : decode cX4_ends 11 = .ok (.iconst 0, 1) := by decide +kernel
theorem dX4_ends_12 : decode cX4_ends 12 = .ok (.invokevirtual 190, 3) := by decide +kernel
theorem dX4_ends_15 : decode cX4_ends 15 = .ok (.goto (-15), 3) := by decide +kernel
theorem dX4_ends_18 : decode cX4_ends 18 = .ok (.aload_n 0, 1) := by decide +kernel
theorem dX4_ends_19 : decode cX4_ends 19 = .ok (.getfield 77, 3) := by decide +kernel
theorem dX4_ends_22 : decode cX4_ends 22 = .ok (.iload_n 1, 1) := by decide +kernel
theorem dX4_ends_23 : decode cX4_ends 23 = .ok (.iload_n 2, 1) := by decide +kernel
theorem dX4_ends_24 : decode cX4_ends 24 = .ok (.iastore, 1) := by decide +kernel
theorem dX4_ends_25 : decode cX4_ends 25 = .ok (.aload_n 0, 1) := by decide +kernel
theorem dX4_ends_26 : decode cX4_ends 26 = .ok (.getfield 89, 3) := by decide +kernel
theorem dX4_ends_29 : decode cX4_ends 29 = .ok (.iload_n 1, 1) := by decide +kernel
theorem dX4_ends_30 : decode cX4_ends 30 = .ok (.aload_n 0, 1) := by decide +kernel
theorem dX4_ends_31 : decode cX4_ends 31 = .ok (.getfield 163, 3) := by decide +kernel
theorem dX4_ends_34 : decode cX4_ends 34 = .ok (.iastore, 1) := by decide +kernel
theorem dX4_ends_35 : decode cX4_ends 35 = .ok (.return_, 1) := by decide +kernel
theorem dX4_off_0 : decode cX4_off 0 = .ok (.aload_n 0, 1) := by decide +kernel
theorem dX4_off_1 : decode cX4_off 1 = .ok (.iload_n 1, 1) := by decide +kernel
theorem dX4_off_2 : decode cX4_off 2 = .ok (.invokevirtual 193, 3) := by decide +kernel
theorem dX4_off_5 : decode cX4_off 5 = .ok (.ifCond .ne 9, 3) := by decide +kernel
theorem dX4_off_8 : decode cX4_off 8 = .ok (.aload_n 0, 1) := by decide +kernel
theorem dX4_off_9 : decode cX4_off 9 = .ok (.iconst (-1), 1) := by decide +kernel
theorem dX4_off_10 : decode cX4_off 10 = .ok (.invokevirtual 124, 3) := by decide +kernel
theorem dX4_off_13 : decode cX4_off 13 = .ok (.ireturn, 1) := by decide +kernel
theorem dX4_off_14 : decode cX4_off 14 = .ok (.aload_n 0, 1) := by decide +kernel
theorem dX4_off_15 : decode cX4_off 15 = .ok (.getfield 77, 3) := by decide +kernel
theorem dX4_off_18 : decode cX4_off 18 = .ok (.iload_n 1, 1) := by decide +kernel
theorem dX4_off_19 : decode cX4_off 19 = .ok (.iaload, 1) := by decide +kernel
theorem dX4_off_20 : decode cX4_off 20 = .ok (.iconst 1, 1) := by decide +kernel
theorem dX4_off_21 : decode cX4_off 21 = .ok (.if_icmp .le 10, 3) := by decide +kernel
theorem dX4_off_24 : decode cX4_off 24 = .ok (.aload_n 0, 1) := by decide +kernel
theorem dX4_off_25 : decode cX4_off 25 = .ok (.bipush (-3), 2) := by decide +kernel
theorem dX4_off_27 : decode cX4_off 27 = .ok (.invokevirtual 124, 3) := by decide +kernel
theorem dX4_off_30 : decode cX4_off 30 = .ok (.ireturn, 1) := by decide +kernel
theorem dX4_off_31 : decode cX4_off 31 = .ok (.aload_n 0, 1) := by decide +kernel
theorem dX4_off_32 : decode cX4_off 32 = .ok (.iload_n 1, 1) := by decide +kernel
theorem dX4_off_33 : decode cX4_off 33 = .ok (.iconst 4, 1) := by decide +kernel
theorem dX4_off_34 : decode cX4_off 34 = .ok (.invokevirtual 196, 3) := by decide +kernel
theorem dX4_off_37 : decode cX4_off 37 = .ok (.iconst 1, 1) := by decide +kernel
theorem dX4_off_38 : decode cX4_off 38 = .ok (.ireturn, 1) := by decide +kernel
theorem dX4_comesBack_0 : decode cX4_comesBack 0 = .ok (.iconst 0, 1) := by decide +kernel
theorem dX4_comesBack_1 : decode cX4_comesBack 1 = .ok (.istore_n 2, 1) := by decide +kernel
theorem dX4_comesBack_2 : decode cX4_comesBack 2 = .ok (.iload_n 2, 1) := by decide +kernel
theorem dX4_comesBack_3 : decode cX4_comesBack 3 = .ok (.aload_n 0, 1) := by decide +kernel
theorem dX4_comesBack_4 : decode cX4_comesBack 4 = .ok (.getfield 80, 3) := by decide +kernel
theorem dX4_comesBack_7 : decode cX4_comesBack 7 = .ok (.iload_n 1, 1) := by decide +kernel
theorem dX4_comesBack_8 : decode cX4_comesBack 8 = .ok (.iaload, 1) := by decide +kernel
theorem dX4_comesBack_9 : decode cX4_comesBack 9 = .ok (.if_icmp .ge 82, 3) := by decide +kernel
theorem dX4_comesBack_12 : decode cX4_comesBack 12 = .ok (.iconst 2, 1) := by decide +kernel
theorem dX4_comesBack_13 : decode cX4_comesBack 13 = .ok (.iload_n 1, 1) := by decide +kernel
theorem dX4_comesBack_14 : decode cX4_comesBack 14 = .ok (.imul, 1) := by decide +kernel
theorem dX4_comesBack_15 : decode cX4_comesBack 15 = .ok (.iload_n 2, 1) := by decide +kernel
theorem dX4_comesBack_16 : decode cX4_comesBack 16 = .ok (.iadd, 1) := by decide +kernel
theorem dX4_comesBack_17 : decode cX4_comesBack 17 = .ok (.istore_n 3, 1) := by decide +kernel
theorem dX4_comesBack_18 : decode cX4_comesBack 18 = .ok (.aload_n 0, 1) := by decide +kernel
theorem dX4_comesBack_19 : decode cX4_comesBack 19 = .ok (.getfield 99, 3) := by decide +kernel
theorem dX4_comesBack_22 : decode cX4_comesBack 22 = .ok (.iload_n 3, 1) := by decide +kernel
theorem dX4_comesBack_23 : decode cX4_comesBack 23 = .ok (.iaload, 1) := by decide +kernel
theorem dX4_comesBack_24 : decode cX4_comesBack 24 = .ok (.istore 4, 2) := by decide +kernel
theorem dX4_comesBack_26 : decode cX4_comesBack 26 = .ok (.aload_n 0, 1) := by decide +kernel
theorem dX4_comesBack_27 : decode cX4_comesBack 27 = .ok (.getfield 105, 3) := by decide +kernel
theorem dX4_comesBack_30 : decode cX4_comesBack 30 = .ok (.iload_n 3, 1) := by decide +kernel
theorem dX4_comesBack_31 : decode cX4_comesBack 31 = .ok (.iaload, 1) := by decide +kernel
theorem dX4_comesBack_32 : decode cX4_comesBack 32 = .ok (.aload_n 0, 1) := by decide +kernel
theorem dX4_comesBack_33 : decode cX4_comesBack 33 = .ok (.getfield 163, 3) := by decide +kernel
theorem dX4_comesBack_36 : decode cX4_comesBack 36 = .ok (.if_icmp .le 9, 3) := by decide +kernel
theorem dX4_comesBack_39 : decode cX4_comesBack 39 = .ok (.iinc 2 1, 3) := by decide +kernel
theorem dX4_comesBack_42 : decode cX4_comesBack 42 = .ok (.goto (-40), 3) := by decide +kernel
theorem dX4_comesBack_45 : decode cX4_comesBack 45 = .ok (.aload_n 0, 1) := by decide +kernel
theorem dX4_comesBack_46 : decode cX4_comesBack 46 = .ok (.getfield 108, 3) := by decide +kernel
theorem dX4_comesBack_49 : decode cX4_comesBack 49 = .ok (.iload_n 3, 1) := by decide +kernel
theorem dX4_comesBack_50 : decode cX4_comesBack 50 = .ok (.baload, 1) := by decide +kernel
theorem dX4_comesBack_51 : decode cX4_comesBack 51 = .ok (.ifCond .ne 25, 3) := by decide +kernel
theorem dX4_comesBack_54 : decode cX4_comesBack 54 = .ok (.aload_n 0, 1) := by decide +kernel
theorem dX4_comesBack_55 : decode cX4_comesBack 55 = .ok (.iload 4, 2) := by decide +kernel
theorem dX4_comesBack_57 : decode cX4_comesBack 57 = .ok (.invokevirtual 199, 3) := by decide +kernel
theorem dX4_comesBack_60 : decode cX4_comesBack 60 = .ok (.aload_n 0, 1) := by decide +kernel
theorem dX4_comesBack_61 : decode cX4_comesBack 61 = .ok (.iload_n 1, 1) := by decide +kernel
theorem dX4_comesBack_62 : decode cX4_comesBack 62 = .ok (.iconst 2, 1) := by decide +kernel
theorem dX4_comesBack_63 : decode cX4_comesBack 63 = .ok (.invokevirtual 196, 3) := by decide +kernel
theorem dX4_comesBack_66 : decode cX4_comesBack 66 = .ok (.aload_n 0, 1) := by decide +kernel
theorem dX4_comesBack_67 : decode cX4_comesBack 67 = .ok (.getfield 92, 3) := by decide +kernel
theorem dX4_comesBack_70 : decode cX4_comesBack 70 = .ok (.iload_n 1, 1) := by decide +kernel
theorem dX4_comesBack_71 : decode cX4_comesBack 71 = .ok (.iload 4, 2) := by decide +kernel
theorem dX4_comesBack_73 : decode cX4_comesBack 73 = .ok (.iastore, 1) := by decide +kernel
theorem dX4_comesBack_74 : decode cX4_comesBack 74 = .ok (.iconst 1, 1) := by decide +kernel
theorem dX4_comesBack_75 : decode cX4_comesBack 75 = .ok (.ireturn, 1) := by decide +kernel
theorem dX4_comesBack_76 : decode cX4_comesBack 76 = .ok (.aload_n 0, 1) := by decide +kernel
theorem dX4_comesBack_77 : decode cX4_comesBack 77 = .ok (.iload_n 1, 1) := by decide +kernel
theorem dX4_comesBack_78 : decode cX4_comesBack 78 = .ok (.iload_n 2, 1) := by decide +kernel
theorem dX4_comesBack_79 : decode cX4_comesBack 79 = .ok (.invokevirtual 190, 3) := by decide +kernel
theorem dX4_comesBack_82 : decode cX4_comesBack 82 = .ok (.aload_n 0, 1) := by decide +kernel
theorem dX4_comesBack_83 : decode cX4_comesBack 83 = .ok (.iload 4, 2) := by decide +kernel
theorem dX4_comesBack_85 : decode cX4_comesBack 85 = .ok (.invokevirtual 203, 3) := by decide +kernel
theorem dX4_comesBack_88 : decode cX4_comesBack 88 = .ok (.goto (-86), 3) := by decide +kernel
theorem dX4_comesBack_91 : decode cX4_comesBack 91 = .ok (.aload_n 0, 1) := by decide +kernel
theorem dX4_comesBack_92 : decode cX4_comesBack 92 = .ok (.getfield 80, 3) := by decide +kernel
theorem dX4_comesBack_95 : decode cX4_comesBack 95 = .ok (.iload_n 1, 1) := by decide +kernel
theorem dX4_comesBack_96 : decode cX4_comesBack 96 = .ok (.iaload, 1) := by decide +kernel
theorem dX4_comesBack_97 : decode cX4_comesBack 97 = .ok (.ifCond .le 5, 3) := by decide +kernel
theorem dX4_comesBack_100 : decode cX4_comesBack 100 = .ok (.iconst 0, 1) := by decide +kernel
theorem dX4_comesBack_101 : decode cX4_comesBack 101 = .ok (.ireturn, 1) := by decide +kernel
theorem dX4_comesBack_102 : decode cX4_comesBack 102 = .ok (.aload_n 0, 1) := by decide +kernel
theorem dX4_comesBack_103 : decode cX4_comesBack 103 = .ok (.getfield 95, 3) := by decide +kernel
theorem dX4_comesBack_106 : decode cX4_comesBack 106 = .ok (.iload_n 1, 1) := by decide +kernel
theorem dX4_comesBack_107 : decode cX4_comesBack 107 = .ok (.baload, 1) := by decide +kernel
theorem dX4_comesBack_108 : decode cX4_comesBack 108 = .ok (.ifCond .eq 56, 3) := by decide +kernel
theorem dX4_comesBack_111 : decode cX4_comesBack 111 = .ok (.aload_n 0, 1) := by decide +kernel
theorem dX4_comesBack_112 : decode cX4_comesBack 112 = .ok (.getfield 163, 3) := by decide +kernel
theorem dX4_comesBack_115 : decode cX4_comesBack 115 = .ok (.aload_n 0, 1) := by decide +kernel
theorem dX4_comesBack_116 : decode cX4_comesBack 116 = .ok (.getfield 74, 3) := by decide +kernel
theorem dX4_comesBack_119 : decode cX4_comesBack 119 = .ok (.iload_n 1, 1) := by decide +kernel
theorem dX4_comesBack_120 : decode cX4_comesBack 120 = .ok (.iaload, 1) := by decide +kernel
theorem dX4_comesBack_121 : decode cX4_comesBack 121 = .ok (.if_icmp .ge 43, 3) := by decide +kernel
theorem dX4_comesBack_124 : decode cX4_comesBack 124 = .ok (.bipush 100, 2) := by decide +kernel
theorem dX4_comesBack_126 : decode cX4_comesBack 126 = .ok (.aload_n 0, 1) := by decide +kernel
theorem dX4_comesBack_127 : decode cX4_comesBack 127 = .ok (.getfield 206, 3) := by decide +kernel
theorem dX4_comesBack_130 : decode cX4_comesBack 130 = .ok (.iconst 1, 1) := by decide +kernel
theorem dX4_comesBack_131 : decode cX4_comesBack 131 = .ok (.iadd, 1) := by decide +kernel
theorem dX4_comesBack_132 : decode cX4_comesBack 132 = .ok (.imul, 1) := by decide +kernel
theorem dX4_comesBack_133 : decode cX4_comesBack 133 = .ok (.aload_n 0, 1) := by decide +kernel
theorem dX4_comesBack_134 : decode cX4_comesBack 134 = .ok (.getfield 17, 3) := by decide +kernel
theorem dX4_comesBack_137 : decode cX4_comesBack 137 = .ok (.aload_n 0, 1) := by decide +kernel
theorem dX4_comesBack_138 : decode cX4_comesBack 138 = .ok (.getfield 121, 3) := by decide +kernel
theorem dX4_comesBack_141 : decode cX4_comesBack 141 = .ok (.imul, 1) := by decide +kernel
theorem dX4_comesBack_142 : decode cX4_comesBack 142 = .ok (.if_icmp .gt 22, 3) := by decide +kernel
theorem dX4_comesBack_145 : decode cX4_comesBack 145 = .ok (.aload_n 0, 1) := by decide +kernel
theorem dX4_comesBack_146 : decode cX4_comesBack 146 = .ok (.dup, 1) := by decide +kernel
theorem dX4_comesBack_147 : decode cX4_comesBack 147 = .ok (.getfield 206, 3) := by decide +kernel
theorem dX4_comesBack_150 : decode cX4_comesBack 150 = .ok (.iconst 1, 1) := by decide +kernel
theorem dX4_comesBack_151 : decode cX4_comesBack 151 = .ok (.iadd, 1) := by decide +kernel
theorem dX4_comesBack_152 : decode cX4_comesBack 152 = .ok (.putfield 206, 3) := by decide +kernel
theorem dX4_comesBack_155 : decode cX4_comesBack 155 = .ok (.aload_n 0, 1) := by decide +kernel
theorem dX4_comesBack_156 : decode cX4_comesBack 156 = .ok (.getfield 77, 3) := by decide +kernel
theorem dX4_comesBack_159 : decode cX4_comesBack 159 = .ok (.iload_n 1, 1) := by decide +kernel
theorem dX4_comesBack_160 : decode cX4_comesBack 160 = .ok (.iconst 0, 1) := by decide +kernel
theorem dX4_comesBack_161 : decode cX4_comesBack 161 = .ok (.iastore, 1) := by decide +kernel
theorem dX4_comesBack_162 : decode cX4_comesBack 162 = .ok (.iconst 0, 1) := by decide +kernel
theorem dX4_comesBack_163 : decode cX4_comesBack 163 = .ok (.ireturn, 1) := by decide +kernel
theorem dX4_comesBack_164 : decode cX4_comesBack 164 = .ok (.aload_n 0, 1) := by decide +kernel
theorem dX4_comesBack_165 : decode cX4_comesBack 165 = .ok (.iload_n 1, 1) := by decide +kernel
theorem dX4_comesBack_166 : decode cX4_comesBack 166 = .ok (.iconst 3, 1) := by decide +kernel
theorem dX4_comesBack_167 : decode cX4_comesBack 167 = .ok (.invokevirtual 196, 3) := by decide +kernel
theorem dX4_comesBack_170 : decode cX4_comesBack 170 = .ok (.iconst 1, 1) := by decide +kernel
theorem dX4_comesBack_171 : decode cX4_comesBack 171 = .ok (.ireturn, 1) := by decide +kernel
theorem dX4_isDue_0 : decode cX4_isDue 0 = .ok (.aload_n 0, 1) := by decide +kernel
theorem dX4_isDue_1 : decode cX4_isDue 1 = .ok (.getfield 74, 3) := by decide +kernel
theorem dX4_isDue_4 : decode cX4_isDue 4 = .ok (.iload_n 1, 1) := by decide +kernel
theorem dX4_isDue_5 : decode cX4_isDue 5 = .ok (.iaload, 1) := by decide +kernel
theorem dX4_isDue_6 : decode cX4_isDue 6 = .ok (.aload_n 0, 1) := by decide +kernel
theorem dX4_isDue_7 : decode cX4_isDue 7 = .ok (.getfield 163, 3) := by decide +kernel
theorem dX4_isDue_10 : decode cX4_isDue 10 = .ok (.if_icmp .ne 13, 3) := by decide +kernel
theorem dX4_isDue_13 : decode cX4_isDue 13 = .ok (.aload_n 0, 1) := by decide +kernel
theorem dX4_isDue_14 : decode cX4_isDue 14 = .ok (.getfield 77, 3) := by decide +kernel
theorem dX4_isDue_17 : decode cX4_isDue 17 = .ok (.iload_n 1, 1) := by decide +kernel
theorem dX4_isDue_18 : decode cX4_isDue 18 = .ok (.iaload, 1) := by decide +kernel
theorem dX4_isDue_19 : decode cX4_isDue 19 = .ok (.iconst 1, 1) := by decide +kernel
theorem dX4_isDue_20 : decode cX4_isDue 20 = .ok (.if_icmp .le 5, 3) := by decide +kernel
theorem dX4_isDue_23 : decode cX4_isDue 23 = .ok (.iconst 0, 1) := by decide +kernel
theorem dX4_isDue_24 : decode cX4_isDue 24 = .ok (.ireturn, 1) := by decide +kernel
theorem dX4_isDue_25 : decode cX4_isDue 25 = .ok (.aload_n 0, 1) := by decide +kernel
theorem dX4_isDue_26 : decode cX4_isDue 26 = .ok (.getfield 77, 3) := by decide +kernel
theorem dX4_isDue_29 : decode cX4_isDue 29 = .ok (.iload_n 1, 1) := by decide +kernel
theorem dX4_isDue_30 : decode cX4_isDue 30 = .ok (.iaload, 1) := by decide +kernel
theorem dX4_isDue_31 : decode cX4_isDue 31 = .ok (.iconst 1, 1) := by decide +kernel
theorem dX4_isDue_32 : decode cX4_isDue 32 = .ok (.if_icmp .ne 7, 3) := by decide +kernel
theorem dX4_isDue_35 : decode cX4_isDue 35 = .ok (.iconst 1, 1) := by decide +kernel
theorem dX4_isDue_36 : decode cX4_isDue 36 = .ok (.goto 4, 3) := by decide +kernel
theorem dX4_isDue_39 : decode cX4_isDue 39 = .ok (.iconst 0, 1) := by decide +kernel
theorem dX4_isDue_40 : decode cX4_isDue 40 = .ok (.istore_n 2, 1) := by decide +kernel
theorem dX4_isDue_41 : decode cX4_isDue 41 = .ok (.aload_n 0, 1) := by decide +kernel
theorem dX4_isDue_42 : decode cX4_isDue 42 = .ok (.getfield 80, 3) := by decide +kernel
theorem dX4_isDue_45 : decode cX4_isDue 45 = .ok (.iload_n 1, 1) := by decide +kernel
theorem dX4_isDue_46 : decode cX4_isDue 46 = .ok (.iaload, 1) := by decide +kernel
theorem dX4_isDue_47 : decode cX4_isDue 47 = .ok (.ifCond .le 26, 3) := by decide +kernel
theorem dX4_isDue_50 : decode cX4_isDue 50 = .ok (.aload_n 0, 1) := by decide +kernel
theorem dX4_isDue_51 : decode cX4_isDue 51 = .ok (.getfield 99, 3) := by decide +kernel
theorem dX4_isDue_54 : decode cX4_isDue 54 = .ok (.iconst 2, 1) := by decide +kernel
theorem dX4_isDue_55 : decode cX4_isDue 55 = .ok (.iload_n 1, 1) := by decide +kernel
theorem dX4_isDue_56 : decode cX4_isDue 56 = .ok (.imul, 1) := by decide +kernel
theorem dX4_isDue_57 : decode cX4_isDue 57 = .ok (.iaload, 1) := by decide +kernel
theorem dX4_isDue_58 : decode cX4_isDue 58 = .ok (.istore_n 3, 1) := by decide +kernel
theorem dX4_isDue_59 : decode cX4_isDue 59 = .ok (.aload_n 0, 1) := by decide +kernel
theorem dX4_isDue_60 : decode cX4_isDue 60 = .ok (.iload_n 1, 1) := by decide +kernel
theorem dX4_isDue_61 : decode cX4_isDue 61 = .ok (.iconst 0, 1) := by decide +kernel
theorem dX4_isDue_62 : decode cX4_isDue 62 = .ok (.invokevirtual 190, 3) := by decide +kernel
theorem dX4_isDue_65 : decode cX4_isDue 65 = .ok (.aload_n 0, 1) := by decide +kernel
theorem dX4_isDue_66 : decode cX4_isDue 66 = .ok (.iload_n 3, 1) := by decide +kernel
theorem dX4_isDue_67 : decode cX4_isDue 67 = .ok (.invokevirtual 203, 3) := by decide +kernel
theorem dX4_isDue_70 : decode cX4_isDue 70 = .ok (.goto (-29), 3) := by decide +kernel
theorem dX4_isDue_73 : decode cX4_isDue 73 = .ok (.aload_n 0, 1) := by decide +kernel
theorem dX4_isDue_74 : decode cX4_isDue 74 = .ok (.iload_n 1, 1) := by decide +kernel
theorem dX4_isDue_75 : decode cX4_isDue 75 = .ok (.iload_n 2, 1) := by decide +kernel
theorem dX4_isDue_76 : decode cX4_isDue 76 = .ok (.ifCond .eq 7, 3) := by decide +kernel
theorem dX4_isDue_79 : decode cX4_isDue 79 = .ok (.iconst 3, 1) := by decide +kernel
theorem dX4_isDue_80 : decode cX4_isDue 80 = .ok (.goto 4, 3) := by decide +kernel
theorem dX4_isDue_83 : decode cX4_isDue 83 = .ok (.iconst 4, 1) := by decide +kernel
theorem dX4_isDue_84 : decode cX4_isDue 84 = .ok (.invokevirtual 196, 3) := by decide +kernel
theorem dX4_isDue_87 : decode cX4_isDue 87 = .ok (.iconst 1, 1) := by decide +kernel
theorem dX4_isDue_88 : decode cX4_isDue 88 = .ok (.ireturn, 1) := by decide +kernel
theorem dX4_hedges_0 : decode cX4_hedges 0 = .ok (.aload_n 0, 1) := by decide +kernel
theorem dX4_hedges_1 : decode cX4_hedges 1 = .ok (.getfield 77, 3) := by decide +kernel
theorem dX4_hedges_4 : decode cX4_hedges 4 = .ok (.iload_n 1, 1) := by decide +kernel
theorem dX4_hedges_5 : decode cX4_hedges 5 = .ok (.iaload, 1) := by decide +kernel
theorem dX4_hedges_6 : decode cX4_hedges 6 = .ok (.iconst 1, 1) := by decide +kernel
theorem dX4_hedges_7 : decode cX4_hedges 7 = .ok (.if_icmp .ne 42, 3) := by decide +kernel
theorem dX4_hedges_10 : decode cX4_hedges 10 = .ok (.aload_n 0, 1) := by decide +kernel
theorem dX4_hedges_11 : decode cX4_hedges 11 = .ok (.getfield 95, 3) := by decide +kernel
theorem dX4_hedges_14 : decode cX4_hedges 14 = .ok (.iload_n 1, 1) := by decide +kernel
theorem dX4_hedges_15 : decode cX4_hedges 15 = .ok (.baload, 1) := by decide +kernel
theorem dX4_hedges_16 : decode cX4_hedges 16 = .ok (.ifCond .eq 33, 3) := by decide +kernel
theorem dX4_hedges_19 : decode cX4_hedges 19 = .ok (.aload_n 0, 1) := by decide +kernel
theorem dX4_hedges_20 : decode cX4_hedges 20 = .ok (.getfield 80, 3) := by decide +kernel
theorem dX4_hedges_23 : decode cX4_hedges 23 = .ok (.iload_n 1, 1) := by decide +kernel
theorem dX4_hedges_24 : decode cX4_hedges 24 = .ok (.iaload, 1) := by decide +kernel
theorem dX4_hedges_25 : decode cX4_hedges 25 = .ok (.iconst 1, 1) := by decide +kernel
theorem dX4_hedges_26 : decode cX4_hedges 26 = .ok (.if_icmp .ne 23, 3) := by decide +kernel
theorem dX4_hedges_29 : decode cX4_hedges 29 = .ok (.aload_n 0, 1) := by decide +kernel
theorem dX4_hedges_30 : decode cX4_hedges 30 = .ok (.getfield 102, 3) := by decide +kernel
theorem dX4_hedges_33 : decode cX4_hedges 33 = .ok (.iconst 2, 1) := by decide +kernel
theorem dX4_hedges_34 : decode cX4_hedges 34 = .ok (.iload_n 1, 1) := by decide +kernel
theorem dX4_hedges_35 : decode cX4_hedges 35 = .ok (.imul, 1) := by decide +kernel
theorem dX4_hedges_36 : decode cX4_hedges 36 = .ok (.iaload, 1) := by decide +kernel
theorem dX4_hedges_37 : decode cX4_hedges 37 = .ok (.aload_n 0, 1) := by decide +kernel
theorem dX4_hedges_38 : decode cX4_hedges 38 = .ok (.getfield 139, 3) := by decide +kernel
theorem dX4_hedges_41 : decode cX4_hedges 41 = .ok (.iadd, 1) := by decide +kernel
theorem dX4_hedges_42 : decode cX4_hedges 42 = .ok (.aload_n 0, 1) := by decide +kernel
theorem dX4_hedges_43 : decode cX4_hedges 43 = .ok (.getfield 163, 3) := by decide +kernel
theorem dX4_hedges_46 : decode cX4_hedges 46 = .ok (.if_icmp .eq 4, 3) := by decide +kernel
theorem dX4_hedges_49 : decode cX4_hedges 49 = .ok (.return_, 1) := by decide +kernel
theorem dX4_hedges_50 : decode cX4_hedges 50 = .ok (.aload_n 0, 1) := by decide +kernel
theorem dX4_hedges_51 : decode cX4_hedges 51 = .ok (.aload_n 0, 1) := by decide +kernel
theorem dX4_hedges_52 : decode cX4_hedges 52 = .ok (.getfield 83, 3) := by decide +kernel
theorem dX4_hedges_55 : decode cX4_hedges 55 = .ok (.iload_n 1, 1) := by decide +kernel
theorem dX4_hedges_56 : decode cX4_hedges 56 = .ok (.iaload, 1) := by decide +kernel
theorem dX4_hedges_57 : decode cX4_hedges 57 = .ok (.invokevirtual 167, 3) := by decide +kernel
theorem dX4_hedges_60 : decode cX4_hedges 60 = .ok (.istore_n 2, 1) := by decide +kernel
theorem dX4_hedges_61 : decode cX4_hedges 61 = .ok (.iload_n 2, 1) := by decide +kernel
theorem dX4_hedges_62 : decode cX4_hedges 62 = .ok (.ifCond .ne 4, 3) := by decide +kernel
theorem dX4_hedges_65 : decode cX4_hedges 65 = .ok (.return_, 1) := by decide +kernel
theorem dX4_hedges_66 : decode cX4_hedges 66 = .ok (.aload_n 0, 1) := by decide +kernel
theorem dX4_hedges_67 : decode cX4_hedges 67 = .ok (.iload_n 1, 1) := by decide +kernel
theorem dX4_hedges_68 : decode cX4_hedges 68 = .ok (.aload_n 0, 1) := by decide +kernel
theorem dX4_hedges_69 : decode cX4_hedges 69 = .ok (.iload_n 2, 1) := by decide +kernel
theorem dX4_hedges_70 : decode cX4_hedges 70 = .ok (.invokevirtual 147, 3) := by decide +kernel
theorem dX4_hedges_73 : decode cX4_hedges 73 = .ok (.invokevirtual 174, 3) := by decide +kernel
theorem dX4_hedges_76 : decode cX4_hedges 76 = .ok (.aload_n 0, 1) := by decide +kernel
theorem dX4_hedges_77 : decode cX4_hedges 77 = .ok (.dup, 1) := by decide +kernel
theorem dX4_hedges_78 : decode cX4_hedges 78 = .ok (.getfield 209, 3) := by decide +kernel
theorem dX4_hedges_81 : decode cX4_hedges 81 = .ok (.iconst 1, 1) := by decide +kernel
theorem dX4_hedges_82 : decode cX4_hedges 82 = .ok (.iadd, 1) := by decide +kernel
theorem dX4_hedges_83 : decode cX4_hedges 83 = .ok (.putfield 209, 3) := by decide +kernel
theorem dX4_hedges_86 : decode cX4_hedges 86 = .ok (.return_, 1) := by decide +kernel
theorem dX4_isAhead_0 : decode cX4_isAhead 0 = .ok (.aload_n 0, 1) := by decide +kernel
theorem dX4_isAhead_1 : decode cX4_isAhead 1 = .ok (.getfield 71, 3) := by decide +kernel
theorem dX4_isAhead_4 : decode cX4_isAhead 4 = .ok (.iload_n 1, 1) := by decide +kernel
theorem dX4_isAhead_5 : decode cX4_isAhead 5 = .ok (.iaload, 1) := by decide +kernel
theorem dX4_isAhead_6 : decode cX4_isAhead 6 = .ok (.aload_n 0, 1) := by decide +kernel
theorem dX4_isAhead_7 : decode cX4_isAhead 7 = .ok (.getfield 71, 3) := by decide +kernel
theorem dX4_isAhead_10 : decode cX4_isAhead 10 = .ok (.iload_n 2, 1) := by decide +kernel
theorem dX4_isAhead_11 : decode cX4_isAhead 11 = .ok (.iaload, 1) := by decide +kernel
theorem dX4_isAhead_12 : decode cX4_isAhead 12 = .ok (.if_icmp .eq 24, 3) := by decide +kernel
theorem dX4_isAhead_15 : decode cX4_isAhead 15 = .ok (.aload_n 0, 1) := by decide +kernel
theorem dX4_isAhead_16 : decode cX4_isAhead 16 = .ok (.getfield 71, 3) := by decide +kernel
theorem dX4_isAhead_19 : decode cX4_isAhead 19 = .ok (.iload_n 1, 1) := by decide +kernel
theorem dX4_isAhead_20 : decode cX4_isAhead 20 = .ok (.iaload, 1) := by decide +kernel
theorem dX4_isAhead_21 : decode cX4_isAhead 21 = .ok (.aload_n 0, 1) := by decide +kernel
theorem dX4_isAhead_22 : decode cX4_isAhead 22 = .ok (.getfield 71, 3) := by decide +kernel
theorem dX4_isAhead_25 : decode cX4_isAhead 25 = .ok (.iload_n 2, 1) := by decide +kernel
theorem dX4_isAhead_26 : decode cX4_isAhead 26 = .ok (.iaload, 1) := by decide +kernel
theorem dX4_isAhead_27 : decode cX4_isAhead 27 = .ok (.if_icmp .le 7, 3) := by decide +kernel
theorem dX4_isAhead_30 : decode cX4_isAhead 30 = .ok (.iconst 1, 1) := by decide +kernel
theorem dX4_isAhead_31 : decode cX4_isAhead 31 = .ok (.goto 4, 3) := by decide +kernel
theorem dX4_isAhead_34 : decode cX4_isAhead 34 = .ok (.iconst 0, 1) := by decide +kernel
theorem dX4_isAhead_35 : decode cX4_isAhead 35 = .ok (.ireturn, 1) := by decide +kernel
theorem dX4_isAhead_36 : decode cX4_isAhead 36 = .ok (.aload_n 0, 1) := by decide +kernel
theorem dX4_isAhead_37 : decode cX4_isAhead 37 = .ok (.getfield 74, 3) := by decide +kernel
theorem dX4_isAhead_40 : decode cX4_isAhead 40 = .ok (.iload_n 1, 1) := by decide +kernel
theorem dX4_isAhead_41 : decode cX4_isAhead 41 = .ok (.iaload, 1) := by decide +kernel
theorem dX4_isAhead_42 : decode cX4_isAhead 42 = .ok (.aload_n 0, 1) := by decide +kernel
theorem dX4_isAhead_43 : decode cX4_isAhead 43 = .ok (.getfield 74, 3) := by decide +kernel
theorem dX4_isAhead_46 : decode cX4_isAhead 46 = .ok (.iload_n 2, 1) := by decide +kernel
theorem dX4_isAhead_47 : decode cX4_isAhead 47 = .ok (.iaload, 1) := by decide +kernel
theorem dX4_isAhead_48 : decode cX4_isAhead 48 = .ok (.if_icmp .eq 26, 3) := by decide +kernel
theorem dX4_isAhead_51 : decode cX4_isAhead 51 = .ok (.aload_n 0, 1) := by decide +kernel
theorem dX4_isAhead_52 : decode cX4_isAhead 52 = .ok (.getfield 74, 3) := by decide +kernel
theorem dX4_isAhead_55 : decode cX4_isAhead 55 = .ok (.iload_n 1, 1) := by decide +kernel
theorem dX4_isAhead_56 : decode cX4_isAhead 56 = .ok (.iaload, 1) := by decide +kernel
theorem dX4_isAhead_57 : decode cX4_isAhead 57 = .ok (.aload_n 0, 1) := by decide +kernel
theorem dX4_isAhead_58 : decode cX4_isAhead 58 = .ok (.getfield 74, 3) := by decide +kernel
theorem dX4_isAhead_61 : decode cX4_isAhead 61 = .ok (.iload_n 2, 1) := by decide +kernel
theorem dX4_isAhead_62 : decode cX4_isAhead 62 = .ok (.iaload, 1) := by decide +kernel
theorem dX4_isAhead_63 : decode cX4_isAhead 63 = .ok (.if_icmp .ge 7, 3) := by decide +kernel
theorem dX4_isAhead_66 : decode cX4_isAhead 66 = .ok (.iconst 1, 1) := by decide +kernel
theorem dX4_isAhead_67 : decode cX4_isAhead 67 = .ok (.goto 17, 3) := by decide +kernel
theorem dX4_isAhead_70 : decode cX4_isAhead 70 = .ok (.iconst 0, 1) := by decide +kernel
theorem dX4_isAhead_71 : decode cX4_isAhead 71 = .ok (.goto 13, 3) := by decide +kernel
theorem dX4_isAhead_74 : decode cX4_isAhead 74 = .ok (.iload_n 1, 1) := by decide +kernel
theorem dX4_isAhead_75 : decode cX4_isAhead 75 = .ok (.iload_n 2, 1) := by decide +kernel
theorem dX4_isAhead_76 : decode cX4_isAhead 76 = .ok (.if_icmp .ge 7, 3) := by decide +kernel
theorem dX4_isAhead_79 : decode cX4_isAhead 79 = .ok (.iconst 1, 1) := by decide +kernel
theorem dX4_isAhead_80 : decode cX4_isAhead 80 = .ok (.goto 4, 3) := by decide +kernel
theorem dX4_isAhead_83 : decode cX4_isAhead 83 = .ok (.iconst 0, 1) := by decide +kernel
theorem dX4_isAhead_84 : decode cX4_isAhead 84 = .ok (.ireturn, 1) := by decide +kernel
theorem dX4_line_0 : decode cX4_line 0 = .ok (.aload_n 0, 1) := by decide +kernel
theorem dX4_line_1 : decode cX4_line 1 = .ok (.iconst 0, 1) := by decide +kernel
theorem dX4_line_2 : decode cX4_line 2 = .ok (.putfield 212, 3) := by decide +kernel
theorem dX4_line_5 : decode cX4_line 5 = .ok (.iconst 0, 1) := by decide +kernel
theorem dX4_line_6 : decode cX4_line 6 = .ok (.istore_n 1, 1) := by decide +kernel
theorem dX4_line_7 : decode cX4_line 7 = .ok (.iload_n 1, 1) := by decide +kernel
theorem dX4_line_8 : decode cX4_line 8 = .ok (.aload_n 0, 1) := by decide +kernel
theorem dX4_line_9 : decode cX4_line 9 = .ok (.getfield 121, 3) := by decide +kernel
theorem dX4_line_12 : decode cX4_line 12 = .ok (.if_icmp .ge 83, 3) := by decide +kernel
theorem dX4_line_15 : decode cX4_line 15 = .ok (.aload_n 0, 1) := by decide +kernel
theorem dX4_line_16 : decode cX4_line 16 = .ok (.getfield 77, 3) := by decide +kernel
theorem dX4_line_19 : decode cX4_line 19 = .ok (.iload_n 1, 1) := by decide +kernel
theorem dX4_line_20 : decode cX4_line 20 = .ok (.iaload, 1) := by decide +kernel
theorem dX4_line_21 : decode cX4_line 21 = .ok (.ifCond .eq 6, 3) := by decide +kernel
theorem dX4_line_24 : decode cX4_line 24 = .ok (.goto 65, 3) := by decide +kernel
theorem dX4_line_27 : decode cX4_line 27 = .ok (.aload_n 0, 1) := by decide +kernel
theorem dX4_line_28 : decode cX4_line 28 = .ok (.getfield 212, 3) := by decide +kernel
theorem dX4_line_31 : decode cX4_line 31 = .ok (.istore_n 2, 1) := by decide +kernel
theorem dX4_line_32 : decode cX4_line 32 = .ok (.iload_n 2, 1) := by decide +kernel
theorem dX4_line_33 : decode cX4_line 33 = .ok (.ifCond .le 39, 3) := by decide +kernel
theorem dX4_line_36 : decode cX4_line 36 = .ok (.aload_n 0, 1) := by decide +kernel
theorem dX4_line_37 : decode cX4_line 37 = .ok (.iload_n 1, 1) := by decide +kernel
theorem dX4_line_38 : decode cX4_line 38 = .ok (.aload_n 0, 1) := by decide +kernel
theorem dX4_line_39 : decode cX4_line 39 = .ok (.getfield 111, 3) := by decide +kernel
theorem dX4_line_42 : decode cX4_line 42 = .ok (.iload_n 2, 1) := by decide +kernel
theorem dX4_line_43 : decode cX4_line 43 = .ok (.iconst 1, 1) := by decide +kernel
theorem dX4_line_44 : decode cX4_line 44 = .ok (.isub, 1) := by decide +kernel
theorem dX4_line_45 : decode cX4_line 45 = .ok (.iaload, 1) := by decide +kernel
theorem dX4_line_46 : decode cX4_line 46 = .ok (.invokevirtual 215, 3) := by decide +kernel
theorem dX4_line_49 : decode cX4_line 49 = .ok (.ifCond .eq 23, 3) := by decide +kernel
theorem dX4_line_52 : decode cX4_line 52 = .ok (.aload_n 0, 1) := by decide +kernel
theorem dX4_line_53 : decode cX4_line 53 = .ok (.getfield 111, 3) := by decide +kernel
theorem dX4_line_56 : decode cX4_line 56 = .ok (.iload_n 2, 1) := by decide +kernel
theorem dX4_line_57 : decode cX4_line 57 = .ok (.aload_n 0, 1) := by decide +kernel
theorem dX4_line_58 : decode cX4_line 58 = .ok (.getfield 111, 3) := by decide +kernel
theorem dX4_line_61 : decode cX4_line 61 = .ok (.iload_n 2, 1) := by decide +kernel
theorem dX4_line_62 : decode cX4_line 62 = .ok (.iconst 1, 1) := by decide +kernel
theorem dX4_line_63 : decode cX4_line 63 = .ok (.isub, 1) := by decide +kernel
theorem dX4_line_64 : decode cX4_line 64 = .ok (.iaload, 1) := by decide +kernel
theorem dX4_line_65 : decode cX4_line 65 = .ok (.iastore, 1) := by decide +kernel
theorem dX4_line_66 : decode cX4_line 66 = .ok (.iinc 2 (-1), 3) := by decide +kernel
theorem dX4_line_69 : decode cX4_line 69 = .ok (.goto (-37), 3) := by decide +kernel
theorem dX4_line_72 : decode cX4_line 72 = .ok (.aload_n 0, 1) := by decide +kernel
theorem dX4_line_73 : decode cX4_line 73 = .ok (.getfield 111, 3) := by decide +kernel
theorem dX4_line_76 : decode cX4_line 76 = .ok (.iload_n 2, 1) := by decide +kernel
theorem dX4_line_77 : decode cX4_line 77 = .ok (.iload_n 1, 1) := by decide +kernel
theorem dX4_line_78 : decode cX4_line 78 = .ok (.iastore, 1) := by decide +kernel
theorem dX4_line_79 : decode cX4_line 79 = .ok (.aload_n 0, 1) := by decide +kernel
theorem dX4_line_80 : decode cX4_line 80 = .ok (.dup, 1) := by decide +kernel
theorem dX4_line_81 : decode cX4_line 81 = .ok (.getfield 212, 3) := by decide +kernel
theorem dX4_line_84 : decode cX4_line 84 = .ok (.iconst 1, 1) := by decide +kernel
theorem dX4_line_85 : decode cX4_line 85 = .ok (.iadd, 1) := by decide +kernel
theorem dX4_line_86 : decode cX4_line 86 = .ok (.putfield 212, 3) := by decide +kernel
theorem dX4_line_89 : decode cX4_line 89 = .ok (.iinc 1 1, 3) := by decide +kernel
theorem dX4_line_92 : decode cX4_line 92 = .ok (.goto (-85), 3) := by decide +kernel
theorem dX4_line_95 : decode cX4_line 95 = .ok (.return_, 1) := by decide +kernel
theorem dX4_goesOn_0 : decode cX4_goesOn 0 = .ok (.aload_n 0, 1) := by decide +kernel
theorem dX4_goesOn_1 : decode cX4_goesOn 1 = .ok (.dup, 1) := by decide +kernel
theorem dX4_goesOn_2 : decode cX4_goesOn 2 = .ok (.getfield 163, 3) := by decide +kernel
theorem dX4_goesOn_5 : decode cX4_goesOn 5 = .ok (.iconst 1, 1) := by decide +kernel
theorem dX4_goesOn_6 : decode cX4_goesOn 6 = .ok (.iadd, 1) := by decide +kernel
theorem dX4_goesOn_7 : decode cX4_goesOn 7 = .ok (.putfield 163, 3) := by decide +kernel
theorem dX4_goesOn_10 : decode cX4_goesOn 10 = .ok (.iconst 0, 1) := by decide +kernel
theorem dX4_goesOn_11 : decode cX4_goesOn 11 = .ok (.istore_n 1, 1) := by decide +kernel
theorem dX4_goesOn_12 : decode cX4_goesOn 12 = .ok (.iconst 0, 1) := by decide +kernel
theorem dX4_goesOn_13 : decode cX4_goesOn 13 = .ok (.istore_n 2, 1) := by decide +kernel
theorem dX4_goesOn_14 : decode cX4_goesOn 14 = .ok (.iload_n 2, 1) := by decide +kernel
theorem dX4_goesOn_15 : decode cX4_goesOn 15 = .ok (.aload_n 0, 1) := by decide +kernel
theorem dX4_goesOn_16 : decode cX4_goesOn 16 = .ok (.getfield 121, 3) := by decide +kernel
theorem dX4_goesOn_19 : decode cX4_goesOn 19 = .ok (.if_icmp .ge 35, 3) := by decide +kernel
theorem dX4_goesOn_22 : decode cX4_goesOn 22 = .ok (.iload_n 1, 1) := by decide +kernel
theorem dX4_goesOn_23 : decode cX4_goesOn 23 = .ok (.aload_n 0, 1) := by decide +kernel
theorem dX4_goesOn_24 : decode cX4_goesOn 24 = .ok (.getfield 77, 3) := by decide +kernel
theorem dX4_goesOn_27 : decode cX4_goesOn 27 = .ok (.iload_n 2, 1) := by decide +kernel
theorem dX4_goesOn_28 : decode cX4_goesOn 28 = .ok (.iaload, 1) := by decide +kernel
theorem dX4_goesOn_29 : decode cX4_goesOn 29 = .ok (.iconst 1, 1) := by decide +kernel
theorem dX4_goesOn_30 : decode cX4_goesOn 30 = .ok (.if_icmp .ne 15, 3) := by decide +kernel
theorem dX4_goesOn_33 : decode cX4_goesOn 33 = .ok (.aload_n 0, 1) := by decide +kernel
theorem dX4_goesOn_34 : decode cX4_goesOn 34 = .ok (.iload_n 2, 1) := by decide +kernel
theorem dX4_goesOn_35 : decode cX4_goesOn 35 = .ok (.invokevirtual 218, 3) := by decide +kernel
theorem dX4_goesOn_38 : decode cX4_goesOn 38 = .ok (.ifCond .eq 7, 3) := by decide +kernel
theorem dX4_goesOn_41 : decode cX4_goesOn 41 = .ok (.iconst 1, 1) := by decide +kernel
theorem dX4_goesOn_42 : decode cX4_goesOn 42 = .ok (.goto 4, 3) := by decide +kernel
theorem dX4_goesOn_45 : decode cX4_goesOn 45 = .ok (.iconst 0, 1) := by decide +kernel
theorem dX4_goesOn_46 : decode cX4_goesOn 46 = .ok (.iadd, 1) := by decide +kernel
theorem dX4_goesOn_47 : decode cX4_goesOn 47 = .ok (.istore_n 1, 1) := by decide +kernel
theorem dX4_goesOn_48 : decode cX4_goesOn 48 = .ok (.iinc 2 1, 3) := by decide +kernel
theorem dX4_goesOn_51 : decode cX4_goesOn 51 = .ok (.goto (-37), 3) := by decide +kernel
theorem dX4_goesOn_54 : decode cX4_goesOn 54 = .ok (.iconst 0, 1) := by decide +kernel
theorem dX4_goesOn_55 : decode cX4_goesOn 55 = .ok (.istore_n 2, 1) := by decide +kernel
theorem dX4_goesOn_56 : decode cX4_goesOn 56 = .ok (.iload_n 2, 1) := by decide +kernel
theorem dX4_goesOn_57 : decode cX4_goesOn 57 = .ok (.aload_n 0, 1) := by decide +kernel
theorem dX4_goesOn_58 : decode cX4_goesOn 58 = .ok (.getfield 121, 3) := by decide +kernel
theorem dX4_goesOn_61 : decode cX4_goesOn 61 = .ok (.if_icmp .ge 25, 3) := by decide +kernel
theorem dX4_goesOn_64 : decode cX4_goesOn 64 = .ok (.iload_n 1, 1) := by decide +kernel
theorem dX4_goesOn_65 : decode cX4_goesOn 65 = .ok (.aload_n 0, 1) := by decide +kernel
theorem dX4_goesOn_66 : decode cX4_goesOn 66 = .ok (.iload_n 2, 1) := by decide +kernel
theorem dX4_goesOn_67 : decode cX4_goesOn 67 = .ok (.invokevirtual 221, 3) := by decide +kernel
theorem dX4_goesOn_70 : decode cX4_goesOn 70 = .ok (.ifCond .eq 7, 3) := by decide +kernel
theorem dX4_goesOn_73 : decode cX4_goesOn 73 = .ok (.iconst 1, 1) := by decide +kernel
theorem dX4_goesOn_74 : decode cX4_goesOn 74 = .ok (.goto 4, 3) := by decide +kernel
theorem dX4_goesOn_77 : decode cX4_goesOn 77 = .ok (.iconst 0, 1) := by decide +kernel
theorem dX4_goesOn_78 : decode cX4_goesOn 78 = .ok (.iadd, 1) := by decide +kernel
theorem dX4_goesOn_79 : decode cX4_goesOn 79 = .ok (.istore_n 1, 1) := by decide +kernel
theorem dX4_goesOn_80 : decode cX4_goesOn 80 = .ok (.iinc 2 1, 3) := by decide +kernel
theorem dX4_goesOn_83 : decode cX4_goesOn 83 = .ok (.goto (-27), 3) := by decide +kernel
theorem dX4_goesOn_86 : decode cX4_goesOn 86 = .ok (.iconst 0, 1) := by decide +kernel
theorem dX4_goesOn_87 : decode cX4_goesOn 87 = .ok (.istore_n 2, 1) := by decide +kernel
theorem dX4_goesOn_88 : decode cX4_goesOn 88 = .ok (.iload_n 2, 1) := by decide +kernel
theorem dX4_goesOn_89 : decode cX4_goesOn 89 = .ok (.aload_n 0, 1) := by decide +kernel
theorem dX4_goesOn_90 : decode cX4_goesOn 90 = .ok (.getfield 114, 3) := by decide +kernel
theorem dX4_goesOn_93 : decode cX4_goesOn 93 = .ok (.if_icmp .ge 39, 3) := by decide +kernel
theorem dX4_goesOn_96 : decode cX4_goesOn 96 = .ok (.aload_n 0, 1) := by decide +kernel
theorem dX4_goesOn_97 : decode cX4_goesOn 97 = .ok (.getfield 38, 3) := by decide +kernel
theorem dX4_goesOn_100 : decode cX4_goesOn 100 = .ok (.iload_n 2, 1) := by decide +kernel
theorem dX4_goesOn_101 : decode cX4_goesOn 101 = .ok (.iaload, 1) := by decide +kernel
theorem dX4_goesOn_102 : decode cX4_goesOn 102 = .ok (.iconst 1, 1) := by decide +kernel
theorem dX4_goesOn_103 : decode cX4_goesOn 103 = .ok (.if_icmp .ne 23, 3) := by decide +kernel
theorem dX4_goesOn_106 : decode cX4_goesOn 106 = .ok (.aload_n 0, 1) := by decide +kernel
theorem dX4_goesOn_107 : decode cX4_goesOn 107 = .ok (.getfield 56, 3) := by decide +kernel
theorem dX4_goesOn_110 : decode cX4_goesOn 110 = .ok (.iload_n 2, 1) := by decide +kernel
theorem dX4_goesOn_111 : decode cX4_goesOn 111 = .ok (.iaload, 1) := by decide +kernel
theorem dX4_goesOn_112 : decode cX4_goesOn 112 = .ok (.aload_n 0, 1) := by decide +kernel
theorem dX4_goesOn_113 : decode cX4_goesOn 113 = .ok (.getfield 163, 3) := by decide +kernel
theorem dX4_goesOn_116 : decode cX4_goesOn 116 = .ok (.if_icmp .gt 10, 3) := by decide +kernel
theorem dX4_goesOn_119 : decode cX4_goesOn 119 = .ok (.aload_n 0, 1) := by decide +kernel
theorem dX4_goesOn_120 : decode cX4_goesOn 120 = .ok (.getfield 38, 3) := by decide +kernel
theorem dX4_goesOn_123 : decode cX4_goesOn 123 = .ok (.iload_n 2, 1) := by decide +kernel
theorem dX4_goesOn_124 : decode cX4_goesOn 124 = .ok (.iconst 2, 1) := by decide +kernel
theorem dX4_goesOn_125 : decode cX4_goesOn 125 = .ok (.iastore, 1) := by decide +kernel
theorem dX4_goesOn_126 : decode cX4_goesOn 126 = .ok (.iinc 2 1, 3) := by decide +kernel
theorem dX4_goesOn_129 : decode cX4_goesOn 129 = .ok (.goto (-41), 3) := by decide +kernel
theorem dX4_goesOn_132 : decode cX4_goesOn 132 = .ok (.iconst 0, 1) := by decide +kernel
theorem dX4_goesOn_133 : decode cX4_goesOn 133 = .ok (.istore_n 2, 1) := by decide +kernel
theorem dX4_goesOn_134 : decode cX4_goesOn 134 = .ok (.iload_n 2, 1) := by decide +kernel
theorem dX4_goesOn_135 : decode cX4_goesOn 135 = .ok (.aload_n 0, 1) := by decide +kernel
theorem dX4_goesOn_136 : decode cX4_goesOn 136 = .ok (.getfield 121, 3) := by decide +kernel
theorem dX4_goesOn_139 : decode cX4_goesOn 139 = .ok (.if_icmp .ge 21, 3) := by decide +kernel
theorem dX4_goesOn_142 : decode cX4_goesOn 142 = .ok (.aload_n 0, 1) := by decide +kernel
theorem dX4_goesOn_143 : decode cX4_goesOn 143 = .ok (.getfield 139, 3) := by decide +kernel
theorem dX4_goesOn_146 : decode cX4_goesOn 146 = .ok (.ifCond .le 14, 3) := by decide +kernel
theorem dX4_goesOn_149 : decode cX4_goesOn 149 = .ok (.aload_n 0, 1) := by decide +kernel
theorem dX4_goesOn_150 : decode cX4_goesOn 150 = .ok (.iload_n 2, 1) := by decide +kernel
theorem dX4_goesOn_151 : decode cX4_goesOn 151 = .ok (.invokevirtual 224, 3) := by decide +kernel
theorem dX4_goesOn_154 : decode cX4_goesOn 154 = .ok (.iinc 2 1, 3) := by decide +kernel
theorem dX4_goesOn_157 : decode cX4_goesOn 157 = .ok (.goto (-23), 3) := by decide +kernel
theorem dX4_goesOn_160 : decode cX4_goesOn 160 = .ok (.aload_n 0, 1) := by decide +kernel
theorem dX4_goesOn_161 : decode cX4_goesOn 161 = .ok (.invokevirtual 227, 3) := by decide +kernel
theorem dX4_goesOn_164 : decode cX4_goesOn 164 = .ok (.iconst 0, 1) := by decide +kernel
theorem dX4_goesOn_165 : decode cX4_goesOn 165 = .ok (.istore_n 2, 1) := by decide +kernel
theorem dX4_goesOn_166 : decode cX4_goesOn 166 = .ok (.iload_n 2, 1) := by decide +kernel
theorem dX4_goesOn_167 : decode cX4_goesOn 167 = .ok (.aload_n 0, 1) := by decide +kernel
theorem dX4_goesOn_168 : decode cX4_goesOn 168 = .ok (.getfield 212, 3) := by decide +kernel
theorem dX4_goesOn_171 : decode cX4_goesOn 171 = .ok (.if_icmp .ge 20, 3) := by decide +kernel
theorem dX4_goesOn_174 : decode cX4_goesOn 174 = .ok (.aload_n 0, 1) := by decide +kernel
theorem dX4_goesOn_175 : decode cX4_goesOn 175 = .ok (.aload_n 0, 1) := by decide +kernel
theorem dX4_goesOn_176 : decode cX4_goesOn 176 = .ok (.getfield 111, 3) := by decide +kernel
theorem dX4_goesOn_179 : decode cX4_goesOn 179 = .ok (.iload_n 2, 1) := by decide +kernel
theorem dX4_goesOn_180 : decode cX4_goesOn 180 = .ok (.iaload, 1) := by decide +kernel
theorem dX4_goesOn_181 : decode cX4_goesOn 181 = .ok (.invokevirtual 178, 3) := by decide +kernel
theorem dX4_goesOn_184 : decode cX4_goesOn 184 = .ok (.istore_n 3, 1) := by decide +kernel
theorem dX4_goesOn_185 : decode cX4_goesOn 185 = .ok (.iinc 2 1, 3) := by decide +kernel
theorem dX4_goesOn_188 : decode cX4_goesOn 188 = .ok (.goto (-22), 3) := by decide +kernel
theorem dX4_goesOn_191 : decode cX4_goesOn 191 = .ok (.iconst 0, 1) := by decide +kernel
theorem dX4_goesOn_192 : decode cX4_goesOn 192 = .ok (.istore_n 2, 1) := by decide +kernel
theorem dX4_goesOn_193 : decode cX4_goesOn 193 = .ok (.iload_n 2, 1) := by decide +kernel
theorem dX4_goesOn_194 : decode cX4_goesOn 194 = .ok (.aload_n 0, 1) := by decide +kernel
theorem dX4_goesOn_195 : decode cX4_goesOn 195 = .ok (.getfield 114, 3) := by decide +kernel
theorem dX4_goesOn_198 : decode cX4_goesOn 198 = .ok (.if_icmp .ge 35, 3) := by decide +kernel
theorem dX4_goesOn_201 : decode cX4_goesOn 201 = .ok (.aload_n 0, 1) := by decide +kernel
theorem dX4_goesOn_202 : decode cX4_goesOn 202 = .ok (.getfield 38, 3) := by decide +kernel
theorem dX4_goesOn_205 : decode cX4_goesOn 205 = .ok (.iload_n 2, 1) := by decide +kernel
theorem dX4_goesOn_206 : decode cX4_goesOn 206 = .ok (.iaload, 1) := by decide +kernel
theorem dX4_goesOn_207 : decode cX4_goesOn 207 = .ok (.iconst 3, 1) := by decide +kernel
theorem dX4_goesOn_208 : decode cX4_goesOn 208 = .ok (.if_icmp .ne 19, 3) := by decide +kernel
theorem dX4_goesOn_211 : decode cX4_goesOn 211 = .ok (.aload_n 0, 1) := by decide +kernel
theorem dX4_goesOn_212 : decode cX4_goesOn 212 = .ok (.getfield 41, 3) := by decide +kernel
theorem dX4_goesOn_215 : decode cX4_goesOn 215 = .ok (.iload_n 2, 1) := by decide +kernel
theorem dX4_goesOn_216 : decode cX4_goesOn 216 = .ok (.iaload, 1) := by decide +kernel
theorem dX4_goesOn_217 : decode cX4_goesOn 217 = .ok (.ifCond .ne 10, 3) := by decide +kernel
theorem dX4_goesOn_220 : decode cX4_goesOn 220 = .ok (.aload_n 0, 1) := by decide +kernel
theorem dX4_goesOn_221 : decode cX4_goesOn 221 = .ok (.getfield 38, 3) := by decide +kernel
theorem dX4_goesOn_224 : decode cX4_goesOn 224 = .ok (.iload_n 2, 1) := by decide +kernel
theorem dX4_goesOn_225 : decode cX4_goesOn 225 = .ok (.iconst 4, 1) := by decide +kernel
theorem dX4_goesOn_226 : decode cX4_goesOn 226 = .ok (.iastore, 1) := by decide +kernel
theorem dX4_goesOn_227 : decode cX4_goesOn 227 = .ok (.iinc 2 1, 3) := by decide +kernel
theorem dX4_goesOn_230 : decode cX4_goesOn 230 = .ok (.goto (-37), 3) := by decide +kernel
theorem dX4_goesOn_233 : decode cX4_goesOn 233 = .ok (.iload_n 1, 1) := by decide +kernel
theorem dX4_goesOn_234 : decode cX4_goesOn 234 = .ok (.ireturn, 1) := by decide +kernel
theorem dX4_ticks_0 : decode cX4_ticks 0 = .ok (.iload_n 1, 1) := by decide +kernel
theorem dX4_ticks_1 : decode cX4_ticks 1 = .ok (.iconst 1, 1) := by decide +kernel
theorem dX4_ticks_2 : decode cX4_ticks 2 = .ok (.if_icmp .ge 10, 3) := by decide +kernel
theorem dX4_ticks_5 : decode cX4_ticks 5 = .ok (.aload_n 0, 1) := by decide +kernel
theorem dX4_ticks_6 : decode cX4_ticks 6 = .ok (.bipush (-4), 2) := by decide +kernel
theorem dX4_ticks_8 : decode cX4_ticks 8 = .ok (.invokevirtual 124, 3) := by decide +kernel
theorem dX4_ticks_11 : decode cX4_ticks 11 = .ok (.ireturn, 1) := by decide +kernel
theorem dX4_ticks_12 : decode cX4_ticks 12 = .ok (.iload_n 1, 1) := by decide +kernel
theorem dX4_ticks_13 : decode cX4_ticks 13 = .ok (.sipush 20000, 3) := by decide +kernel
theorem dX4_ticks_16 : decode cX4_ticks 16 = .ok (.aload_n 0, 1) := by decide +kernel
theorem dX4_ticks_17 : decode cX4_ticks 17 = .ok (.getfield 163, 3) := by decide +kernel
theorem dX4_ticks_20 : decode cX4_ticks 20 = .ok (.isub, 1) := by decide +kernel
theorem dX4_ticks_21 : decode cX4_ticks 21 = .ok (.if_icmp .le 10, 3) := by decide +kernel
theorem dX4_ticks_24 : decode cX4_ticks 24 = .ok (.aload_n 0, 1) := by decide +kernel
theorem dX4_ticks_25 : decode cX4_ticks 25 = .ok (.bipush (-6), 2) := by decide +kernel
theorem dX4_ticks_27 : decode cX4_ticks 27 = .ok (.invokevirtual 124, 3) := by decide +kernel
theorem dX4_ticks_30 : decode cX4_ticks 30 = .ok (.ireturn, 1) := by decide +kernel
theorem dX4_ticks_31 : decode cX4_ticks 31 = .ok (.iconst 0, 1) := by decide +kernel
theorem dX4_ticks_32 : decode cX4_ticks 32 = .ok (.istore_n 2, 1) := by decide +kernel
theorem dX4_ticks_33 : decode cX4_ticks 33 = .ok (.iconst 0, 1) := by decide +kernel
theorem dX4_ticks_34 : decode cX4_ticks 34 = .ok (.istore_n 3, 1) := by decide +kernel
theorem dX4_ticks_35 : decode cX4_ticks 35 = .ok (.iload_n 3, 1) := by decide +kernel
theorem dX4_ticks_36 : decode cX4_ticks 36 = .ok (.iload_n 1, 1) := by decide +kernel
theorem dX4_ticks_37 : decode cX4_ticks 37 = .ok (.if_icmp .ge 16, 3) := by decide +kernel
theorem dX4_ticks_40 : decode cX4_ticks 40 = .ok (.iload_n 2, 1) := by decide +kernel
theorem dX4_ticks_41 : decode cX4_ticks 41 = .ok (.aload_n 0, 1) := by decide +kernel
theorem dX4_ticks_42 : decode cX4_ticks 42 = .ok (.invokevirtual 230, 3) := by decide +kernel
theorem dX4_ticks_45 : decode cX4_ticks 45 = .ok (.iadd, 1) := by decide +kernel
theorem dX4_ticks_46 : decode cX4_ticks 46 = .ok (.istore_n 2, 1) := by decide +kernel
theorem dX4_ticks_47 : decode cX4_ticks 47 = .ok (.iinc 3 1, 3) := by decide +kernel
theorem dX4_ticks_50 : decode cX4_ticks 50 = .ok (.goto (-15), 3) := by decide +kernel
theorem dX4_ticks_53 : decode cX4_ticks 53 = .ok (.iload_n 2, 1) := by decide +kernel
theorem dX4_ticks_54 : decode cX4_ticks 54 = .ok (.ireturn, 1) := by decide +kernel
theorem dX4_pick_0 : decode cX4_pick 0 = .ok (.iload_n 1, 1) := by decide +kernel
theorem dX4_pick_1 : decode cX4_pick 1 = .ok (.ifCond .ge 10, 3) := by decide +kernel
theorem dX4_pick_4 : decode cX4_pick 4 = .ok (.aload_n 0, 1) := by decide +kernel
theorem dX4_pick_5 : decode cX4_pick 5 = .ok (.bipush (-4), 2) := by decide +kernel
theorem dX4_pick_7 : decode cX4_pick 7 = .ok (.invokevirtual 124, 3) := by decide +kernel
theorem dX4_pick_10 : decode cX4_pick 10 = .ok (.ireturn, 1) := by decide +kernel
theorem dX4_pick_11 : decode cX4_pick 11 = .ok (.iload_n 1, 1) := by decide +kernel
theorem dX4_pick_12 : decode cX4_pick 12 = .ok (.ldc 143, 2) := by decide +kernel
theorem dX4_pick_14 : decode cX4_pick 14 = .ok (.if_icmp .lt 10, 3) := by decide +kernel
theorem dX4_pick_17 : decode cX4_pick 17 = .ok (.aload_n 0, 1) := by decide +kernel
theorem dX4_pick_18 : decode cX4_pick 18 = .ok (.bipush (-6), 2) := by decide +kernel
theorem dX4_pick_20 : decode cX4_pick 20 = .ok (.invokevirtual 124, 3) := by decide +kernel
theorem dX4_pick_23 : decode cX4_pick 23 = .ok (.ireturn, 1) := by decide +kernel
theorem dX4_pick_24 : decode cX4_pick 24 = .ok (.aload_n 0, 1) := by decide +kernel
theorem dX4_pick_25 : decode cX4_pick 25 = .ok (.iconst 0, 1) := by decide +kernel
theorem dX4_pick_26 : decode cX4_pick 26 = .ok (.invokevirtual 167, 3) := by decide +kernel
theorem dX4_pick_29 : decode cX4_pick 29 = .ok (.istore_n 2, 1) := by decide +kernel
theorem dX4_pick_30 : decode cX4_pick 30 = .ok (.iload_n 2, 1) := by decide +kernel
theorem dX4_pick_31 : decode cX4_pick 31 = .ok (.ifCond .ne 8, 3) := by decide +kernel
theorem dX4_pick_34 : decode cX4_pick 34 = .ok (.bipush (-9), 2) := by decide +kernel
theorem dX4_pick_36 : decode cX4_pick 36 = .ok (.goto 10, 3) := by decide +kernel
theorem dX4_pick_39 : decode cX4_pick 39 = .ok (.aload_n 0, 1) := by decide +kernel
theorem dX4_pick_40 : decode cX4_pick 40 = .ok (.iload_n 2, 1) := by decide +kernel
theorem dX4_pick_41 : decode cX4_pick 41 = .ok (.iload_n 1, 1) := by decide +kernel
theorem dX4_pick_42 : decode cX4_pick 42 = .ok (.iconst 0, 1) := by decide +kernel
theorem dX4_pick_43 : decode cX4_pick 43 = .ok (.invokevirtual 170, 3) := by decide +kernel
theorem dX4_pick_46 : decode cX4_pick 46 = .ok (.ireturn, 1) := by decide +kernel
theorem dX4_callOf_0 : decode cX4_callOf 0 = .ok (.aload_n 0, 1) := by decide +kernel
theorem dX4_callOf_1 : decode cX4_callOf 1 = .ok (.iload_n 1, 1) := by decide +kernel
theorem dX4_callOf_2 : decode cX4_callOf 2 = .ok (.invokevirtual 193, 3) := by decide +kernel
theorem dX4_callOf_5 : decode cX4_callOf 5 = .ok (.ifCond .ne 9, 3) := by decide +kernel
theorem dX4_callOf_8 : decode cX4_callOf 8 = .ok (.aload_n 0, 1) := by decide +kernel
theorem dX4_callOf_9 : decode cX4_callOf 9 = .ok (.iconst (-1), 1) := by decide +kernel
theorem dX4_callOf_10 : decode cX4_callOf 10 = .ok (.invokevirtual 124, 3) := by decide +kernel
theorem dX4_callOf_13 : decode cX4_callOf 13 = .ok (.ireturn, 1) := by decide +kernel
theorem dX4_callOf_14 : decode cX4_callOf 14 = .ok (.iload_n 2, 1) := by decide +kernel
theorem dX4_callOf_15 : decode cX4_callOf 15 = .ok (.tableswitch 196 0 10 #[57, 64, 71, 78, 85, 100, 107, 149, 175, 182, 189], 57) := by decide +kernel
theorem dX4_callOf_72 : decode cX4_callOf 72 = .ok (.aload_n 0, 1) := by decide +kernel
theorem dX4_callOf_73 : decode cX4_callOf 73 = .ok (.getfield 77, 3) := by decide +kernel
theorem dX4_callOf_76 : decode cX4_callOf 76 = .ok (.iload_n 1, 1) := by decide +kernel
theorem dX4_callOf_77 : decode cX4_callOf 77 = .ok (.iaload, 1) := by decide +kernel
theorem dX4_callOf_78 : decode cX4_callOf 78 = .ok (.ireturn, 1) := by decide +kernel
theorem dX4_callOf_79 : decode cX4_callOf 79 = .ok (.aload_n 0, 1) := by decide +kernel
theorem dX4_callOf_80 : decode cX4_callOf 80 = .ok (.getfield 68, 3) := by decide +kernel
theorem dX4_callOf_83 : decode cX4_callOf 83 = .ok (.iload_n 1, 1) := by decide +kernel
theorem dX4_callOf_84 : decode cX4_callOf 84 = .ok (.iaload, 1) := by decide +kernel
theorem dX4_callOf_85 : decode cX4_callOf 85 = .ok (.ireturn, 1) := by decide +kernel
theorem dX4_callOf_86 : decode cX4_callOf 86 = .ok (.aload_n 0, 1) := by decide +kernel
theorem dX4_callOf_87 : decode cX4_callOf 87 = .ok (.getfield 71, 3) := by decide +kernel
theorem dX4_callOf_90 : decode cX4_callOf 90 = .ok (.iload_n 1, 1) := by decide +kernel
theorem dX4_callOf_91 : decode cX4_callOf 91 = .ok (.iaload, 1) := by decide +kernel
theorem dX4_callOf_92 : decode cX4_callOf 92 = .ok (.ireturn, 1) := by decide +kernel
theorem dX4_callOf_93 : decode cX4_callOf 93 = .ok (.aload_n 0, 1) := by decide +kernel
theorem dX4_callOf_94 : decode cX4_callOf 94 = .ok (.getfield 74, 3) := by decide +kernel
theorem dX4_callOf_97 : decode cX4_callOf 97 = .ok (.iload_n 1, 1) := by decide +kernel
theorem dX4_callOf_98 : decode cX4_callOf 98 = .ok (.iaload, 1) := by decide +kernel
theorem dX4_callOf_99 : decode cX4_callOf 99 = .ok (.ireturn, 1) := by decide +kernel
theorem dX4_callOf_100 : decode cX4_callOf 100 = .ok (.aload_n 0, 1) := by decide +kernel
theorem dX4_callOf_101 : decode cX4_callOf 101 = .ok (.getfield 95, 3) := by decide +kernel
theorem dX4_callOf_104 : decode cX4_callOf 104 = .ok (.iload_n 1, 1) := by decide +kernel
theorem dX4_callOf_105 : decode cX4_callOf 105 = .ok (.baload, 1) := by decide +kernel
theorem dX4_callOf_106 : decode cX4_callOf 106 = .ok (.ifCond .eq 7, 3) := by decide +kernel
theorem dX4_callOf_109 : decode cX4_callOf 109 = .ok (.iconst 1, 1) := by decide +kernel
theorem dX4_callOf_110 : decode cX4_callOf 110 = .ok (.goto 4, 3) := by decide +kernel
theorem dX4_callOf_113 : decode cX4_callOf 113 = .ok (.iconst 0, 1) := by decide +kernel
theorem dX4_callOf_114 : decode cX4_callOf 114 = .ok (.ireturn, 1) := by decide +kernel
theorem dX4_callOf_115 : decode cX4_callOf 115 = .ok (.aload_n 0, 1) := by decide +kernel
theorem dX4_callOf_116 : decode cX4_callOf 116 = .ok (.getfield 80, 3) := by decide +kernel
theorem dX4_callOf_119 : decode cX4_callOf 119 = .ok (.iload_n 1, 1) := by decide +kernel
theorem dX4_callOf_120 : decode cX4_callOf 120 = .ok (.iaload, 1) := by decide +kernel
theorem dX4_callOf_121 : decode cX4_callOf 121 = .ok (.ireturn, 1) := by decide +kernel
theorem dX4_callOf_122 : decode cX4_callOf 122 = .ok (.aload_n 0, 1) := by decide +kernel
theorem dX4_callOf_123 : decode cX4_callOf 123 = .ok (.getfield 77, 3) := by decide +kernel
theorem dX4_callOf_126 : decode cX4_callOf 126 = .ok (.iload_n 1, 1) := by decide +kernel
theorem dX4_callOf_127 : decode cX4_callOf 127 = .ok (.iaload, 1) := by decide +kernel
theorem dX4_callOf_128 : decode cX4_callOf 128 = .ok (.iconst 2, 1) := by decide +kernel
theorem dX4_callOf_129 : decode cX4_callOf 129 = .ok (.if_icmp .ne 12, 3) := by decide +kernel
theorem dX4_callOf_132 : decode cX4_callOf 132 = .ok (.aload_n 0, 1) := by decide +kernel
theorem dX4_callOf_133 : decode cX4_callOf 133 = .ok (.getfield 92, 3) := by decide +kernel
theorem dX4_callOf_136 : decode cX4_callOf 136 = .ok (.iload_n 1, 1) := by decide +kernel
theorem dX4_callOf_137 : decode cX4_callOf 137 = .ok (.iaload, 1) := by decide +kernel
theorem dX4_callOf_138 : decode cX4_callOf 138 = .ok (.goto 25, 3) := by decide +kernel
theorem dX4_callOf_141 : decode cX4_callOf 141 = .ok (.aload_n 0, 1) := by decide +kernel
theorem dX4_callOf_142 : decode cX4_callOf 142 = .ok (.getfield 80, 3) := by decide +kernel
theorem dX4_callOf_145 : decode cX4_callOf 145 = .ok (.iload_n 1, 1) := by decide +kernel
theorem dX4_callOf_146 : decode cX4_callOf 146 = .ok (.iaload, 1) := by decide +kernel
theorem dX4_callOf_147 : decode cX4_callOf 147 = .ok (.ifCond .le 14, 3) := by decide +kernel
theorem dX4_callOf_150 : decode cX4_callOf 150 = .ok (.aload_n 0, 1) := by decide +kernel
theorem dX4_callOf_151 : decode cX4_callOf 151 = .ok (.getfield 99, 3) := by decide +kernel
theorem dX4_callOf_154 : decode cX4_callOf 154 = .ok (.iconst 2, 1) := by decide +kernel
theorem dX4_callOf_155 : decode cX4_callOf 155 = .ok (.iload_n 1, 1) := by decide +kernel
theorem dX4_callOf_156 : decode cX4_callOf 156 = .ok (.imul, 1) := by decide +kernel
theorem dX4_callOf_157 : decode cX4_callOf 157 = .ok (.iaload, 1) := by decide +kernel
theorem dX4_callOf_158 : decode cX4_callOf 158 = .ok (.goto 5, 3) := by decide +kernel
theorem dX4_callOf_161 : decode cX4_callOf 161 = .ok (.bipush (-9), 2) := by decide +kernel
theorem dX4_callOf_163 : decode cX4_callOf 163 = .ok (.ireturn, 1) := by decide +kernel
theorem dX4_callOf_164 : decode cX4_callOf 164 = .ok (.aload_n 0, 1) := by decide +kernel
theorem dX4_callOf_165 : decode cX4_callOf 165 = .ok (.getfield 80, 3) := by decide +kernel
theorem dX4_callOf_168 : decode cX4_callOf 168 = .ok (.iload_n 1, 1) := by decide +kernel
theorem dX4_callOf_169 : decode cX4_callOf 169 = .ok (.iaload, 1) := by decide +kernel
theorem dX4_callOf_170 : decode cX4_callOf 170 = .ok (.iconst 1, 1) := by decide +kernel
theorem dX4_callOf_171 : decode cX4_callOf 171 = .ok (.if_icmp .le 16, 3) := by decide +kernel
theorem dX4_callOf_174 : decode cX4_callOf 174 = .ok (.aload_n 0, 1) := by decide +kernel
theorem dX4_callOf_175 : decode cX4_callOf 175 = .ok (.getfield 99, 3) := by decide +kernel
theorem dX4_callOf_178 : decode cX4_callOf 178 = .ok (.iconst 2, 1) := by decide +kernel
theorem dX4_callOf_179 : decode cX4_callOf 179 = .ok (.iload_n 1, 1) := by decide +kernel
theorem dX4_callOf_180 : decode cX4_callOf 180 = .ok (.imul, 1) := by decide +kernel
theorem dX4_callOf_181 : decode cX4_callOf 181 = .ok (.iconst 1, 1) := by decide +kernel
theorem dX4_callOf_182 : decode cX4_callOf 182 = .ok (.iadd, 1) := by decide +kernel
theorem dX4_callOf_183 : decode cX4_callOf 183 = .ok (.iaload, 1) := by decide +kernel
theorem dX4_callOf_184 : decode cX4_callOf 184 = .ok (.goto 5, 3) := by decide +kernel
theorem dX4_callOf_187 : decode cX4_callOf 187 = .ok (.bipush (-9), 2) := by decide +kernel
theorem dX4_callOf_189 : decode cX4_callOf 189 = .ok (.ireturn, 1) := by decide +kernel
theorem dX4_callOf_190 : decode cX4_callOf 190 = .ok (.aload_n 0, 1) := by decide +kernel
theorem dX4_callOf_191 : decode cX4_callOf 191 = .ok (.getfield 83, 3) := by decide +kernel
theorem dX4_callOf_194 : decode cX4_callOf 194 = .ok (.iload_n 1, 1) := by decide +kernel
theorem dX4_callOf_195 : decode cX4_callOf 195 = .ok (.iaload, 1) := by decide +kernel
theorem dX4_callOf_196 : decode cX4_callOf 196 = .ok (.ireturn, 1) := by decide +kernel
theorem dX4_callOf_197 : decode cX4_callOf 197 = .ok (.aload_n 0, 1) := by decide +kernel
theorem dX4_callOf_198 : decode cX4_callOf 198 = .ok (.getfield 86, 3) := by decide +kernel
theorem dX4_callOf_201 : decode cX4_callOf 201 = .ok (.iload_n 1, 1) := by decide +kernel
theorem dX4_callOf_202 : decode cX4_callOf 202 = .ok (.iaload, 1) := by decide +kernel
theorem dX4_callOf_203 : decode cX4_callOf 203 = .ok (.ireturn, 1) := by decide +kernel
theorem dX4_callOf_204 : decode cX4_callOf 204 = .ok (.aload_n 0, 1) := by decide +kernel
theorem dX4_callOf_205 : decode cX4_callOf 205 = .ok (.getfield 89, 3) := by decide +kernel
theorem dX4_callOf_208 : decode cX4_callOf 208 = .ok (.iload_n 1, 1) := by decide +kernel
theorem dX4_callOf_209 : decode cX4_callOf 209 = .ok (.iaload, 1) := by decide +kernel
theorem dX4_callOf_210 : decode cX4_callOf 210 = .ok (.ireturn, 1) := by decide +kernel
theorem dX4_callOf_211 : decode cX4_callOf 211 = .ok (.aload_n 0, 1) := by decide +kernel
theorem dX4_callOf_212 : decode cX4_callOf 212 = .ok (.bipush (-2), 2) := by decide +kernel
theorem dX4_callOf_214 : decode cX4_callOf 214 = .ok (.invokevirtual 124, 3) := by decide +kernel
theorem dX4_callOf_217 : decode cX4_callOf 217 = .ok (.ireturn, 1) := by decide +kernel
theorem dX4_serverOf_0 : decode cX4_serverOf 0 = .ok (.aload_n 0, 1) := by decide +kernel
theorem dX4_serverOf_1 : decode cX4_serverOf 1 = .ok (.iload_n 1, 1) := by decide +kernel
theorem dX4_serverOf_2 : decode cX4_serverOf 2 = .ok (.invokevirtual 128, 3) := by decide +kernel
theorem dX4_serverOf_5 : decode cX4_serverOf 5 = .ok (.ifCond .ne 9, 3) := by decide +kernel
theorem dX4_serverOf_8 : decode cX4_serverOf 8 = .ok (.aload_n 0, 1) := by decide +kernel
theorem dX4_serverOf_9 : decode cX4_serverOf 9 = .ok (.iconst (-1), 1) := by decide +kernel
theorem dX4_serverOf_10 : decode cX4_serverOf 10 = .ok (.invokevirtual 124, 3) := by decide +kernel
theorem dX4_serverOf_13 : decode cX4_serverOf 13 = .ok (.ireturn, 1) := by decide +kernel
theorem dX4_serverOf_14 : decode cX4_serverOf 14 = .ok (.iload_n 2, 1) := by decide +kernel
theorem dX4_serverOf_15 : decode cX4_serverOf 15 = .ok (.tableswitch 207 0 15 #[77, 84, 91, 98, 105, 112, 119, 141, 148, 155, 165, 172, 179, 186, 193, 200], 77) := by decide +kernel
theorem dX4_serverOf_92 : decode cX4_serverOf 92 = .ok (.aload_n 0, 1) := by decide +kernel
theorem dX4_serverOf_93 : decode cX4_serverOf 93 = .ok (.getfield 38, 3) := by decide +kernel
theorem dX4_serverOf_96 : decode cX4_serverOf 96 = .ok (.iload_n 1, 1) := by decide +kernel
theorem dX4_serverOf_97 : decode cX4_serverOf 97 = .ok (.iaload, 1) := by decide +kernel
theorem dX4_serverOf_98 : decode cX4_serverOf 98 = .ok (.ireturn, 1) := by decide +kernel
theorem dX4_serverOf_99 : decode cX4_serverOf 99 = .ok (.aload_n 0, 1) := by decide +kernel
theorem dX4_serverOf_100 : decode cX4_serverOf 100 = .ok (.getfield 41, 3) := by decide +kernel
theorem dX4_serverOf_103 : decode cX4_serverOf 103 = .ok (.iload_n 1, 1) := by decide +kernel
theorem dX4_serverOf_104 : decode cX4_serverOf 104 = .ok (.iaload, 1) := by decide +kernel
theorem dX4_serverOf_105 : decode cX4_serverOf 105 = .ok (.ireturn, 1) := by decide +kernel
theorem dX4_serverOf_106 : decode cX4_serverOf 106 = .ok (.aload_n 0, 1) := by decide +kernel
theorem dX4_serverOf_107 : decode cX4_serverOf 107 = .ok (.getfield 44, 3) := by decide +kernel
theorem dX4_serverOf_110 : decode cX4_serverOf 110 = .ok (.iload_n 1, 1) := by decide +kernel
theorem dX4_serverOf_111 : decode cX4_serverOf 111 = .ok (.iaload, 1) := by decide +kernel
theorem dX4_serverOf_112 : decode cX4_serverOf 112 = .ok (.ireturn, 1) := by decide +kernel
theorem dX4_serverOf_113 : decode cX4_serverOf 113 = .ok (.aload_n 0, 1) := by decide +kernel
theorem dX4_serverOf_114 : decode cX4_serverOf 114 = .ok (.getfield 47, 3) := by decide +kernel
theorem dX4_serverOf_117 : decode cX4_serverOf 117 = .ok (.iload_n 1, 1) := by decide +kernel
theorem dX4_serverOf_118 : decode cX4_serverOf 118 = .ok (.iaload, 1) := by decide +kernel
theorem dX4_serverOf_119 : decode cX4_serverOf 119 = .ok (.ireturn, 1) := by decide +kernel
theorem dX4_serverOf_120 : decode cX4_serverOf 120 = .ok (.aload_n 0, 1) := by decide +kernel
theorem dX4_serverOf_121 : decode cX4_serverOf 121 = .ok (.getfield 50, 3) := by decide +kernel
theorem dX4_serverOf_124 : decode cX4_serverOf 124 = .ok (.iload_n 1, 1) := by decide +kernel
theorem dX4_serverOf_125 : decode cX4_serverOf 125 = .ok (.iaload, 1) := by decide +kernel
theorem dX4_serverOf_126 : decode cX4_serverOf 126 = .ok (.ireturn, 1) := by decide +kernel
theorem dX4_serverOf_127 : decode cX4_serverOf 127 = .ok (.aload_n 0, 1) := by decide +kernel
theorem dX4_serverOf_128 : decode cX4_serverOf 128 = .ok (.getfield 53, 3) := by decide +kernel
theorem dX4_serverOf_131 : decode cX4_serverOf 131 = .ok (.iload_n 1, 1) := by decide +kernel
theorem dX4_serverOf_132 : decode cX4_serverOf 132 = .ok (.iaload, 1) := by decide +kernel
theorem dX4_serverOf_133 : decode cX4_serverOf 133 = .ok (.ireturn, 1) := by decide +kernel
theorem dX4_serverOf_134 : decode cX4_serverOf 134 = .ok (.aload_n 0, 1) := by decide +kernel
theorem dX4_serverOf_135 : decode cX4_serverOf 135 = .ok (.getfield 38, 3) := by decide +kernel
theorem dX4_serverOf_138 : decode cX4_serverOf 138 = .ok (.iload_n 1, 1) := by decide +kernel
theorem dX4_serverOf_139 : decode cX4_serverOf 139 = .ok (.iaload, 1) := by decide +kernel
theorem dX4_serverOf_140 : decode cX4_serverOf 140 = .ok (.iconst 1, 1) := by decide +kernel
theorem dX4_serverOf_141 : decode cX4_serverOf 141 = .ok (.if_icmp .ne 12, 3) := by decide +kernel
theorem dX4_serverOf_144 : decode cX4_serverOf 144 = .ok (.aload_n 0, 1) := by decide +kernel
theorem dX4_serverOf_145 : decode cX4_serverOf 145 = .ok (.getfield 56, 3) := by decide +kernel
theorem dX4_serverOf_148 : decode cX4_serverOf 148 = .ok (.iload_n 1, 1) := by decide +kernel
theorem dX4_serverOf_149 : decode cX4_serverOf 149 = .ok (.iaload, 1) := by decide +kernel
theorem dX4_serverOf_150 : decode cX4_serverOf 150 = .ok (.goto 5, 3) := by decide +kernel
theorem dX4_serverOf_153 : decode cX4_serverOf 153 = .ok (.bipush (-9), 2) := by decide +kernel
theorem dX4_serverOf_155 : decode cX4_serverOf 155 = .ok (.ireturn, 1) := by decide +kernel
theorem dX4_serverOf_156 : decode cX4_serverOf 156 = .ok (.aload_n 0, 1) := by decide +kernel
theorem dX4_serverOf_157 : decode cX4_serverOf 157 = .ok (.getfield 59, 3) := by decide +kernel
theorem dX4_serverOf_160 : decode cX4_serverOf 160 = .ok (.iload_n 1, 1) := by decide +kernel
theorem dX4_serverOf_161 : decode cX4_serverOf 161 = .ok (.iaload, 1) := by decide +kernel
theorem dX4_serverOf_162 : decode cX4_serverOf 162 = .ok (.ireturn, 1) := by decide +kernel
theorem dX4_serverOf_163 : decode cX4_serverOf 163 = .ok (.aload_n 0, 1) := by decide +kernel
theorem dX4_serverOf_164 : decode cX4_serverOf 164 = .ok (.getfield 62, 3) := by decide +kernel
theorem dX4_serverOf_167 : decode cX4_serverOf 167 = .ok (.iload_n 1, 1) := by decide +kernel
theorem dX4_serverOf_168 : decode cX4_serverOf 168 = .ok (.iaload, 1) := by decide +kernel
theorem dX4_serverOf_169 : decode cX4_serverOf 169 = .ok (.ireturn, 1) := by decide +kernel
theorem dX4_serverOf_170 : decode cX4_serverOf 170 = .ok (.aload_n 0, 1) := by decide +kernel
theorem dX4_serverOf_171 : decode cX4_serverOf 171 = .ok (.getfield 65, 3) := by decide +kernel
theorem dX4_serverOf_174 : decode cX4_serverOf 174 = .ok (.iload_n 1, 1) := by decide +kernel
theorem dX4_serverOf_175 : decode cX4_serverOf 175 = .ok (.iaload, 1) := by decide +kernel
theorem dX4_serverOf_176 : decode cX4_serverOf 176 = .ok (.ldc 234, 2) := by decide +kernel
theorem dX4_serverOf_178 : decode cX4_serverOf 178 = .ok (.iadd, 1) := by decide +kernel
theorem dX4_serverOf_179 : decode cX4_serverOf 179 = .ok (.ireturn, 1) := by decide +kernel
theorem dX4_serverOf_180 : decode cX4_serverOf 180 = .ok (.aload_n 0, 1) := by decide +kernel
theorem dX4_serverOf_181 : decode cX4_serverOf 181 = .ok (.getfield 20, 3) := by decide +kernel
theorem dX4_serverOf_184 : decode cX4_serverOf 184 = .ok (.iload_n 1, 1) := by decide +kernel
theorem dX4_serverOf_185 : decode cX4_serverOf 185 = .ok (.iaload, 1) := by decide +kernel
theorem dX4_serverOf_186 : decode cX4_serverOf 186 = .ok (.ireturn, 1) := by decide +kernel
theorem dX4_serverOf_187 : decode cX4_serverOf 187 = .ok (.aload_n 0, 1) := by decide +kernel
theorem dX4_serverOf_188 : decode cX4_serverOf 188 = .ok (.getfield 23, 3) := by decide +kernel
theorem dX4_serverOf_191 : decode cX4_serverOf 191 = .ok (.iload_n 1, 1) := by decide +kernel
theorem dX4_serverOf_192 : decode cX4_serverOf 192 = .ok (.iaload, 1) := by decide +kernel
theorem dX4_serverOf_193 : decode cX4_serverOf 193 = .ok (.ireturn, 1) := by decide +kernel
theorem dX4_serverOf_194 : decode cX4_serverOf 194 = .ok (.aload_n 0, 1) := by decide +kernel
theorem dX4_serverOf_195 : decode cX4_serverOf 195 = .ok (.getfield 26, 3) := by decide +kernel
theorem dX4_serverOf_198 : decode cX4_serverOf 198 = .ok (.iload_n 1, 1) := by decide +kernel
theorem dX4_serverOf_199 : decode cX4_serverOf 199 = .ok (.iaload, 1) := by decide +kernel
theorem dX4_serverOf_200 : decode cX4_serverOf 200 = .ok (.ireturn, 1) := by decide +kernel
theorem dX4_serverOf_201 : decode cX4_serverOf 201 = .ok (.aload_n 0, 1) := by decide +kernel
theorem dX4_serverOf_202 : decode cX4_serverOf 202 = .ok (.getfield 29, 3) := by decide +kernel
theorem dX4_serverOf_205 : decode cX4_serverOf 205 = .ok (.iload_n 1, 1) := by decide +kernel
theorem dX4_serverOf_206 : decode cX4_serverOf 206 = .ok (.iaload, 1) := by decide +kernel
theorem dX4_serverOf_207 : decode cX4_serverOf 207 = .ok (.ireturn, 1) := by decide +kernel
theorem dX4_serverOf_208 : decode cX4_serverOf 208 = .ok (.aload_n 0, 1) := by decide +kernel
theorem dX4_serverOf_209 : decode cX4_serverOf 209 = .ok (.getfield 32, 3) := by decide +kernel
theorem dX4_serverOf_212 : decode cX4_serverOf 212 = .ok (.iload_n 1, 1) := by decide +kernel
theorem dX4_serverOf_213 : decode cX4_serverOf 213 = .ok (.iaload, 1) := by decide +kernel
theorem dX4_serverOf_214 : decode cX4_serverOf 214 = .ok (.ireturn, 1) := by decide +kernel
theorem dX4_serverOf_215 : decode cX4_serverOf 215 = .ok (.aload_n 0, 1) := by decide +kernel
theorem dX4_serverOf_216 : decode cX4_serverOf 216 = .ok (.getfield 35, 3) := by decide +kernel
theorem dX4_serverOf_219 : decode cX4_serverOf 219 = .ok (.iload_n 1, 1) := by decide +kernel
theorem dX4_serverOf_220 : decode cX4_serverOf 220 = .ok (.iaload, 1) := by decide +kernel
theorem dX4_serverOf_221 : decode cX4_serverOf 221 = .ok (.ireturn, 1) := by decide +kernel
theorem dX4_serverOf_222 : decode cX4_serverOf 222 = .ok (.aload_n 0, 1) := by decide +kernel
theorem dX4_serverOf_223 : decode cX4_serverOf 223 = .ok (.bipush (-2), 2) := by decide +kernel
theorem dX4_serverOf_225 : decode cX4_serverOf 225 = .ok (.invokevirtual 124, 3) := by decide +kernel
theorem dX4_serverOf_228 : decode cX4_serverOf 228 = .ok (.ireturn, 1) := by decide +kernel
theorem dX4_mark_0 : decode cX4_mark 0 = .ok (.aload_n 0, 1) := by decide +kernel
theorem dX4_mark_1 : decode cX4_mark 1 = .ok (.iload_n 1, 1) := by decide +kernel
theorem dX4_mark_2 : decode cX4_mark 2 = .ok (.invokevirtual 128, 3) := by decide +kernel
theorem dX4_mark_5 : decode cX4_mark 5 = .ok (.ifCond .ne 9, 3) := by decide +kernel
theorem dX4_mark_8 : decode cX4_mark 8 = .ok (.aload_n 0, 1) := by decide +kernel
theorem dX4_mark_9 : decode cX4_mark 9 = .ok (.iconst (-1), 1) := by decide +kernel
theorem dX4_mark_10 : decode cX4_mark 10 = .ok (.invokevirtual 124, 3) := by decide +kernel
theorem dX4_mark_13 : decode cX4_mark 13 = .ok (.ireturn, 1) := by decide +kernel
theorem dX4_mark_14 : decode cX4_mark 14 = .ok (.iload_n 2, 1) := by decide +kernel
theorem dX4_mark_15 : decode cX4_mark 15 = .ok (.iconst 4, 1) := by decide +kernel
theorem dX4_mark_16 : decode cX4_mark 16 = .ok (.invokestatic 117, 3) := by decide +kernel
theorem dX4_mark_19 : decode cX4_mark 19 = .ok (.ifCond .eq 11, 3) := by decide +kernel
theorem dX4_mark_22 : decode cX4_mark 22 = .ok (.iload_n 1, 1) := by decide +kernel
theorem dX4_mark_23 : decode cX4_mark 23 = .ok (.iload_n 2, 1) := by decide +kernel
theorem dX4_mark_24 : decode cX4_mark 24 = .ok (.invokestatic 144, 3) := by decide +kernel
theorem dX4_mark_27 : decode cX4_mark 27 = .ok (.goto 9, 3) := by decide +kernel
theorem dX4_mark_30 : decode cX4_mark 30 = .ok (.aload_n 0, 1) := by decide +kernel
theorem dX4_mark_31 : decode cX4_mark 31 = .ok (.bipush (-2), 2) := by decide +kernel
theorem dX4_mark_33 : decode cX4_mark 33 = .ok (.invokevirtual 124, 3) := by decide +kernel
theorem dX4_mark_36 : decode cX4_mark 36 = .ok (.ireturn, 1) := by decide +kernel
theorem dX4_queue_0 : decode cX4_queue 0 = .ok (.aload_n 0, 1) := by decide +kernel
theorem dX4_queue_1 : decode cX4_queue 1 = .ok (.invokevirtual 227, 3) := by decide +kernel
theorem dX4_queue_4 : decode cX4_queue 4 = .ok (.iload_n 1, 1) := by decide +kernel
theorem dX4_queue_5 : decode cX4_queue 5 = .ok (.aload_n 0, 1) := by decide +kernel
theorem dX4_queue_6 : decode cX4_queue 6 = .ok (.getfield 212, 3) := by decide +kernel
theorem dX4_queue_9 : decode cX4_queue 9 = .ok (.invokestatic 117, 3) := by decide +kernel
theorem dX4_queue_12 : decode cX4_queue 12 = .ok (.ifCond .eq 12, 3) := by decide +kernel
theorem dX4_queue_15 : decode cX4_queue 15 = .ok (.aload_n 0, 1) := by decide +kernel
theorem dX4_queue_16 : decode cX4_queue 16 = .ok (.getfield 111, 3) := by decide +kernel
theorem dX4_queue_19 : decode cX4_queue 19 = .ok (.iload_n 1, 1) := by decide +kernel
theorem dX4_queue_20 : decode cX4_queue 20 = .ok (.iaload, 1) := by decide +kernel
theorem dX4_queue_21 : decode cX4_queue 21 = .ok (.goto 5, 3) := by decide +kernel
theorem dX4_queue_24 : decode cX4_queue 24 = .ok (.bipush (-9), 2) := by decide +kernel
theorem dX4_queue_26 : decode cX4_queue 26 = .ok (.ireturn, 1) := by decide +kernel
theorem dX4_share_0 : decode cX4_share 0 = .ok (.aload_n 0, 1) := by decide +kernel
theorem dX4_share_1 : decode cX4_share 1 = .ok (.iload_n 1, 1) := by decide +kernel
theorem dX4_share_2 : decode cX4_share 2 = .ok (.invokevirtual 128, 3) := by decide +kernel
theorem dX4_share_5 : decode cX4_share 5 = .ok (.ifCond .ne 9, 3) := by decide +kernel
theorem dX4_share_8 : decode cX4_share 8 = .ok (.aload_n 0, 1) := by decide +kernel
theorem dX4_share_9 : decode cX4_share 9 = .ok (.iconst (-1), 1) := by decide +kernel
theorem dX4_share_10 : decode cX4_share 10 = .ok (.invokevirtual 124, 3) := by decide +kernel
theorem dX4_share_13 : decode cX4_share 13 = .ok (.ireturn, 1) := by decide +kernel
theorem dX4_share_14 : decode cX4_share 14 = .ok (.aload_n 0, 1) := by decide +kernel
theorem dX4_share_15 : decode cX4_share 15 = .ok (.getfield 160, 3) := by decide +kernel
theorem dX4_share_18 : decode cX4_share 18 = .ok (.ifCond .ne 7, 3) := by decide +kernel
theorem dX4_share_21 : decode cX4_share 21 = .ok (.iconst 0, 1) := by decide +kernel
theorem dX4_share_22 : decode cX4_share 22 = .ok (.goto 18, 3) := by decide +kernel
theorem dX4_share_25 : decode cX4_share 25 = .ok (.sipush 1000, 3) := by decide +kernel
theorem dX4_share_28 : decode cX4_share 28 = .ok (.aload_n 0, 1) := by decide +kernel
theorem dX4_share_29 : decode cX4_share 29 = .ok (.getfield 44, 3) := by decide +kernel
theorem dX4_share_32 : decode cX4_share 32 = .ok (.iload_n 1, 1) := by decide +kernel
theorem dX4_share_33 : decode cX4_share 33 = .ok (.iaload, 1) := by decide +kernel
theorem dX4_share_34 : decode cX4_share 34 = .ok (.imul, 1) := by decide +kernel
theorem dX4_share_35 : decode cX4_share 35 = .ok (.aload_n 0, 1) := by decide +kernel
theorem dX4_share_36 : decode cX4_share 36 = .ok (.getfield 160, 3) := by decide +kernel
theorem dX4_share_39 : decode cX4_share 39 = .ok (.idiv, 1) := by decide +kernel
theorem dX4_share_40 : decode cX4_share 40 = .ok (.ireturn, 1) := by decide +kernel
theorem dX4_inState_0 : decode cX4_inState 0 = .ok (.iconst 0, 1) := by decide +kernel
theorem dX4_inState_1 : decode cX4_inState 1 = .ok (.istore_n 2, 1) := by decide +kernel
theorem dX4_inState_2 : decode cX4_inState 2 = .ok (.iconst 0, 1) := by decide +kernel
theorem dX4_inState_3 : decode cX4_inState 3 = .ok (.istore_n 3, 1) := by decide +kernel
theorem dX4_inState_4 : decode cX4_inState 4 = .ok (.iload_n 3, 1) := by decide +kernel
theorem dX4_inState_5 : decode cX4_inState 5 = .ok (.aload_n 0, 1) := by decide +kernel
theorem dX4_inState_6 : decode cX4_inState 6 = .ok (.getfield 121, 3) := by decide +kernel
theorem dX4_inState_9 : decode cX4_inState 9 = .ok (.if_icmp .ge 27, 3) := by decide +kernel
theorem dX4_inState_12 : decode cX4_inState 12 = .ok (.iload_n 2, 1) := by decide +kernel
theorem dX4_inState_13 : decode cX4_inState 13 = .ok (.aload_n 0, 1) := by decide +kernel
theorem dX4_inState_14 : decode cX4_inState 14 = .ok (.getfield 77, 3) := by decide +kernel
theorem dX4_inState_17 : decode cX4_inState 17 = .ok (.iload_n 3, 1) := by decide +kernel
theorem dX4_inState_18 : decode cX4_inState 18 = .ok (.iaload, 1) := by decide +kernel
theorem dX4_inState_19 : decode cX4_inState 19 = .ok (.iload_n 1, 1) := by decide +kernel
theorem dX4_inState_20 : decode cX4_inState 20 = .ok (.if_icmp .ne 7, 3) := by decide +kernel
theorem dX4_inState_23 : decode cX4_inState 23 = .ok (.iconst 1, 1) := by decide +kernel
theorem dX4_inState_24 : decode cX4_inState 24 = .ok (.goto 4, 3) := by decide +kernel
theorem dX4_inState_27 : decode cX4_inState 27 = .ok (.iconst 0, 1) := by decide +kernel
theorem dX4_inState_28 : decode cX4_inState 28 = .ok (.iadd, 1) := by decide +kernel
theorem dX4_inState_29 : decode cX4_inState 29 = .ok (.istore_n 2, 1) := by decide +kernel
theorem dX4_inState_30 : decode cX4_inState 30 = .ok (.iinc 3 1, 3) := by decide +kernel
theorem dX4_inState_33 : decode cX4_inState 33 = .ok (.goto (-29), 3) := by decide +kernel
theorem dX4_inState_36 : decode cX4_inState 36 = .ok (.iload_n 2, 1) := by decide +kernel
theorem dX4_inState_37 : decode cX4_inState 37 = .ok (.ireturn, 1) := by decide +kernel
theorem dX4_count_0 : decode cX4_count 0 = .ok (.iload_n 1, 1) := by decide +kernel
theorem dX4_count_1 : decode cX4_count 1 = .ok (.bipush 10, 2) := by decide +kernel
theorem dX4_count_3 : decode cX4_count 3 = .ok (.if_icmp .le 19, 3) := by decide +kernel
theorem dX4_count_6 : decode cX4_count 6 = .ok (.iload_n 1, 1) := by decide +kernel
theorem dX4_count_7 : decode cX4_count 7 = .ok (.bipush 17, 2) := by decide +kernel
theorem dX4_count_9 : decode cX4_count 9 = .ok (.if_icmp .ge 13, 3) := by decide +kernel
theorem dX4_count_12 : decode cX4_count 12 = .ok (.aload_n 0, 1) := by decide +kernel
theorem dX4_count_13 : decode cX4_count 13 = .ok (.getfield 7, 3) := by decide +kernel
theorem dX4_count_16 : decode cX4_count 16 = .ok (.iload_n 1, 1) := by decide +kernel
theorem dX4_count_17 : decode cX4_count 17 = .ok (.bipush 10, 2) := by decide +kernel
theorem dX4_count_19 : decode cX4_count 19 = .ok (.isub, 1) := by decide +kernel
theorem dX4_count_20 : decode cX4_count 20 = .ok (.iaload, 1) := by decide +kernel
theorem dX4_count_21 : decode cX4_count 21 = .ok (.ireturn, 1) := by decide +kernel
theorem dX4_count_22 : decode cX4_count 22 = .ok (.iconst 0, 1) := by decide +kernel
theorem dX4_count_23 : decode cX4_count 23 = .ok (.istore_n 2, 1) := by decide +kernel
theorem dX4_count_24 : decode cX4_count 24 = .ok (.iload_n 1, 1) := by decide +kernel
theorem dX4_count_25 : decode cX4_count 25 = .ok (.tableswitch 152 0 17 #[87, 92, 97, 102, 102, 102, 102, 102, 110, 115, 120, 152, 152, 152, 152, 152, 152, 125], 87) := by decide +kernel
theorem dX4_count_112 : decode cX4_count 112 = .ok (.aload_n 0, 1) := by decide +kernel
theorem dX4_count_113 : decode cX4_count 113 = .ok (.getfield 163, 3) := by decide +kernel
theorem dX4_count_116 : decode cX4_count 116 = .ok (.ireturn, 1) := by decide +kernel
theorem dX4_count_117 : decode cX4_count 117 = .ok (.aload_n 0, 1) := by decide +kernel
theorem dX4_count_118 : decode cX4_count 118 = .ok (.getfield 114, 3) := by decide +kernel
theorem dX4_count_121 : decode cX4_count 121 = .ok (.ireturn, 1) := by decide +kernel
theorem dX4_count_122 : decode cX4_count 122 = .ok (.aload_n 0, 1) := by decide +kernel
theorem dX4_count_123 : decode cX4_count 123 = .ok (.getfield 121, 3) := by decide +kernel
theorem dX4_count_126 : decode cX4_count 126 = .ok (.ireturn, 1) := by decide +kernel
theorem dX4_count_127 : decode cX4_count 127 = .ok (.aload_n 0, 1) := by decide +kernel
theorem dX4_count_128 : decode cX4_count 128 = .ok (.iload_n 1, 1) := by decide +kernel
theorem dX4_count_129 : decode cX4_count 129 = .ok (.iconst 3, 1) := by decide +kernel
theorem dX4_count_130 : decode cX4_count 130 = .ok (.isub, 1) := by decide +kernel
theorem dX4_count_131 : decode cX4_count 131 = .ok (.invokevirtual 235, 3) := by decide +kernel
theorem dX4_count_134 : decode cX4_count 134 = .ok (.ireturn, 1) := by decide +kernel
theorem dX4_count_135 : decode cX4_count 135 = .ok (.aload_n 0, 1) := by decide +kernel
theorem dX4_count_136 : decode cX4_count 136 = .ok (.getfield 160, 3) := by decide +kernel
theorem dX4_count_139 : decode cX4_count 139 = .ok (.ireturn, 1) := by decide +kernel
theorem dX4_count_140 : decode cX4_count 140 = .ok (.aload_n 0, 1) := by decide +kernel
theorem dX4_count_141 : decode cX4_count 141 = .ok (.getfield 206, 3) := by decide +kernel
theorem dX4_count_144 : decode cX4_count 144 = .ok (.ireturn, 1) := by decide +kernel
theorem dX4_count_145 : decode cX4_count 145 = .ok (.aload_n 0, 1) := by decide +kernel
theorem dX4_count_146 : decode cX4_count 146 = .ok (.getfield 209, 3) := by decide +kernel
theorem dX4_count_149 : decode cX4_count 149 = .ok (.ireturn, 1) := by decide +kernel
theorem dX4_count_150 : decode cX4_count 150 = .ok (.iconst 0, 1) := by decide +kernel
theorem dX4_count_151 : decode cX4_count 151 = .ok (.istore_n 3, 1) := by decide +kernel
theorem dX4_count_152 : decode cX4_count 152 = .ok (.iload_n 3, 1) := by decide +kernel
theorem dX4_count_153 : decode cX4_count 153 = .ok (.aload_n 0, 1) := by decide +kernel
theorem dX4_count_154 : decode cX4_count 154 = .ok (.getfield 114, 3) := by decide +kernel
theorem dX4_count_157 : decode cX4_count 157 = .ok (.if_icmp .ge 18, 3) := by decide +kernel
theorem dX4_count_160 : decode cX4_count 160 = .ok (.iload_n 2, 1) := by decide +kernel
theorem dX4_count_161 : decode cX4_count 161 = .ok (.aload_n 0, 1) := by decide +kernel
theorem dX4_count_162 : decode cX4_count 162 = .ok (.getfield 41, 3) := by decide +kernel
theorem dX4_count_165 : decode cX4_count 165 = .ok (.iload_n 3, 1) := by decide +kernel
theorem dX4_count_166 : decode cX4_count 166 = .ok (.iaload, 1) := by decide +kernel
theorem dX4_count_167 : decode cX4_count 167 = .ok (.iadd, 1) := by decide +kernel
theorem dX4_count_168 : decode cX4_count 168 = .ok (.istore_n 2, 1) := by decide +kernel
theorem dX4_count_169 : decode cX4_count 169 = .ok (.iinc 3 1, 3) := by decide +kernel
theorem dX4_count_172 : decode cX4_count 172 = .ok (.goto (-20), 3) := by decide +kernel
theorem dX4_count_175 : decode cX4_count 175 = .ok (.iload_n 2, 1) := by decide +kernel
theorem dX4_count_176 : decode cX4_count 176 = .ok (.ireturn, 1) := by decide +kernel
theorem dX4_count_177 : decode cX4_count 177 = .ok (.bipush (-9), 2) := by decide +kernel
theorem dX4_count_179 : decode cX4_count 179 = .ok (.ireturn, 1) := by decide +kernel
