theorem dX0_init_0 : decode cX0_init 0 = .ok (.aload_n 0, 1) := by decide +kernel
theorem dX0_init_1 : decode cX0_init 1 = .ok (.invokespecial 1, 3) := by decide +kernel
theorem dX0_init_4 : decode cX0_init 4 = .ok (.aload_n 0, 1) := by decide +kernel
theorem dX0_init_5 : decode cX0_init 5 = .ok (.aload_n 1, 1) := by decide +kernel
theorem dX0_init_6 : decode cX0_init 6 = .ok (.putfield 7, 3) := by decide +kernel
theorem dX0_init_9 : decode cX0_init 9 = .ok (.aload_n 0, 1) := by decide +kernel
theorem dX0_init_10 : decode cX0_init 10 = .ok (.iload_n 2, 1) := by decide +kernel
theorem dX0_init_11 : decode cX0_init 11 = .ok (.putfield 13, 3) := by decide +kernel
theorem dX0_init_14 : decode cX0_init 14 = .ok (.aload_n 0, 1) := by decide +kernel
theorem dX0_init_15 : decode cX0_init 15 = .ok (.iload_n 3, 1) := by decide +kernel
theorem dX0_init_16 : decode cX0_init 16 = .ok (.putfield 17, 3) := by decide +kernel
theorem dX0_init_19 : decode cX0_init 19 = .ok (.aload_n 0, 1) := by decide +kernel
theorem dX0_init_20 : decode cX0_init 20 = .ok (.iload 4, 2) := by decide +kernel
theorem dX0_init_22 : decode cX0_init 22 = .ok (.putfield 20, 3) := by decide +kernel
theorem dX0_init_25 : decode cX0_init 25 = .ok (.return_, 1) := by decide +kernel
theorem dX1_init_0 : decode cX1_init 0 = .ok (.aload_n 0, 1) := by decide +kernel
theorem dX1_init_1 : decode cX1_init 1 = .ok (.invokespecial 3, 3) := by decide +kernel
theorem dX1_init_4 : decode cX1_init 4 = .ok (.aload_n 0, 1) := by decide +kernel
theorem dX1_init_5 : decode cX1_init 5 = .ok (.iload_n 1, 1) := by decide +kernel
theorem dX1_init_6 : decode cX1_init 6 = .ok (.putfield 9, 3) := by decide +kernel
theorem dX1_init_9 : decode cX1_init 9 = .ok (.aload_n 0, 1) := by decide +kernel
theorem dX1_init_10 : decode cX1_init 10 = .ok (.iload_n 2, 1) := by decide +kernel
theorem dX1_init_11 : decode cX1_init 11 = .ok (.putfield 15, 3) := by decide +kernel
theorem dX1_init_14 : decode cX1_init 14 = .ok (.aload_n 0, 1) := by decide +kernel
theorem dX1_init_15 : decode cX1_init 15 = .ok (.iload_n 3, 1) := by decide +kernel
theorem dX1_init_16 : decode cX1_init 16 = .ok (.putfield 18, 3) := by decide +kernel
theorem dX1_init_19 : decode cX1_init 19 = .ok (.aload_n 0, 1) := by decide +kernel
theorem dX1_init_20 : decode cX1_init 20 = .ok (.iload 4, 2) := by decide +kernel
theorem dX1_init_22 : decode cX1_init 22 = .ok (.putfield 21, 3) := by decide +kernel
theorem dX1_init_25 : decode cX1_init 25 = .ok (.aload_n 0, 1) := by decide +kernel
theorem dX1_init_26 : decode cX1_init 26 = .ok (.iload 5, 2) := by decide +kernel
theorem dX1_init_28 : decode cX1_init 28 = .ok (.putfield 24, 3) := by decide +kernel
theorem dX1_init_31 : decode cX1_init 31 = .ok (.aload_n 0, 1) := by decide +kernel
theorem dX1_init_32 : decode cX1_init 32 = .ok (.iload 6, 2) := by decide +kernel
theorem dX1_init_34 : decode cX1_init 34 = .ok (.putfield 27, 3) := by decide +kernel
theorem dX1_init_37 : decode cX1_init 37 = .ok (.aload_n 0, 1) := by decide +kernel
theorem dX1_init_38 : decode cX1_init 38 = .ok (.iconst 0, 1) := by decide +kernel
theorem dX1_init_39 : decode cX1_init 39 = .ok (.putfield 31, 3) := by decide +kernel
theorem dX1_init_42 : decode cX1_init 42 = .ok (.aload_n 0, 1) := by decide +kernel
theorem dX1_init_43 : decode cX1_init 43 = .ok (.bipush (-9), 2) := by decide +kernel
theorem dX1_init_45 : decode cX1_init 45 = .ok (.putfield 34, 3) := by decide +kernel
theorem dX1_init_48 : decode cX1_init 48 = .ok (.aload_n 0, 1) := by decide +kernel
theorem dX1_init_49 : decode cX1_init 49 = .ok (.bipush (-9), 2) := by decide +kernel
theorem dX1_init_51 : decode cX1_init 51 = .ok (.putfield 37, 3) := by decide +kernel
theorem dX1_init_54 : decode cX1_init 54 = .ok (.return_, 1) := by decide +kernel
theorem dX1_hasEnded_0 : decode cX1_hasEnded 0 = .ok (.aload_n 0, 1) := by decide +kernel
theorem dX1_hasEnded_1 : decode cX1_hasEnded 1 = .ok (.getfield 31, 3) := by decide +kernel
theorem dX1_hasEnded_4 : decode cX1_hasEnded 4 = .ok (.ifCond .eq 15, 3) := by decide +kernel
theorem dX1_hasEnded_7 : decode cX1_hasEnded 7 = .ok (.aload_n 0, 1) := by decide +kernel
theorem dX1_hasEnded_8 : decode cX1_hasEnded 8 = .ok (.getfield 31, 3) := by decide +kernel
theorem dX1_hasEnded_11 : decode cX1_hasEnded 11 = .ok (.iconst 1, 1) := by decide +kernel
theorem dX1_hasEnded_12 : decode cX1_hasEnded 12 = .ok (.if_icmp .eq 7, 3) := by decide +kernel
theorem dX1_hasEnded_15 : decode cX1_hasEnded 15 = .ok (.iconst 1, 1) := by decide +kernel
theorem dX1_hasEnded_16 : decode cX1_hasEnded 16 = .ok (.goto 4, 3) := by decide +kernel
theorem dX1_hasEnded_19 : decode cX1_hasEnded 19 = .ok (.iconst 0, 1) := by decide +kernel
theorem dX1_hasEnded_20 : decode cX1_hasEnded 20 = .ok (.ireturn, 1) := by decide +kernel
theorem dX1_goesAheadOf_0 : decode cX1_goesAheadOf 0 = .ok (.aload_n 0, 1) := by decide +kernel
theorem dX1_goesAheadOf_1 : decode cX1_goesAheadOf 1 = .ok (.getfield 18, 3) := by decide +kernel
theorem dX1_goesAheadOf_4 : decode cX1_goesAheadOf 4 = .ok (.aload_n 1, 1) := by decide +kernel
theorem dX1_goesAheadOf_5 : decode cX1_goesAheadOf 5 = .ok (.getfield 18, 3) := by decide +kernel
theorem dX1_goesAheadOf_8 : decode cX1_goesAheadOf 8 = .ok (.if_icmp .eq 20, 3) := by decide +kernel
theorem dX1_goesAheadOf_11 : decode cX1_goesAheadOf 11 = .ok (.aload_n 0, 1) := by decide +kernel
theorem dX1_goesAheadOf_12 : decode cX1_goesAheadOf 12 = .ok (.getfield 18, 3) := by decide +kernel
theorem dX1_goesAheadOf_15 : decode cX1_goesAheadOf 15 = .ok (.aload_n 1, 1) := by decide +kernel
theorem dX1_goesAheadOf_16 : decode cX1_goesAheadOf 16 = .ok (.getfield 18, 3) := by decide +kernel
theorem dX1_goesAheadOf_19 : decode cX1_goesAheadOf 19 = .ok (.if_icmp .le 7, 3) := by decide +kernel
theorem dX1_goesAheadOf_22 : decode cX1_goesAheadOf 22 = .ok (.iconst 1, 1) := by decide +kernel
theorem dX1_goesAheadOf_23 : decode cX1_goesAheadOf 23 = .ok (.goto 4, 3) := by decide +kernel
theorem dX1_goesAheadOf_26 : decode cX1_goesAheadOf 26 = .ok (.iconst 0, 1) := by decide +kernel
theorem dX1_goesAheadOf_27 : decode cX1_goesAheadOf 27 = .ok (.ireturn, 1) := by decide +kernel
theorem dX1_goesAheadOf_28 : decode cX1_goesAheadOf 28 = .ok (.aload_n 0, 1) := by decide +kernel
theorem dX1_goesAheadOf_29 : decode cX1_goesAheadOf 29 = .ok (.getfield 24, 3) := by decide +kernel
theorem dX1_goesAheadOf_32 : decode cX1_goesAheadOf 32 = .ok (.aload_n 1, 1) := by decide +kernel
theorem dX1_goesAheadOf_33 : decode cX1_goesAheadOf 33 = .ok (.getfield 24, 3) := by decide +kernel
theorem dX1_goesAheadOf_36 : decode cX1_goesAheadOf 36 = .ok (.if_icmp .eq 22, 3) := by decide +kernel
theorem dX1_goesAheadOf_39 : decode cX1_goesAheadOf 39 = .ok (.aload_n 0, 1) := by decide +kernel
theorem dX1_goesAheadOf_40 : decode cX1_goesAheadOf 40 = .ok (.getfield 24, 3) := by decide +kernel
theorem dX1_goesAheadOf_43 : decode cX1_goesAheadOf 43 = .ok (.aload_n 1, 1) := by decide +kernel
theorem dX1_goesAheadOf_44 : decode cX1_goesAheadOf 44 = .ok (.getfield 24, 3) := by decide +kernel
theorem dX1_goesAheadOf_47 : decode cX1_goesAheadOf 47 = .ok (.if_icmp .ge 7, 3) := by decide +kernel
theorem dX1_goesAheadOf_50 : decode cX1_goesAheadOf 50 = .ok (.iconst 1, 1) := by decide +kernel
theorem dX1_goesAheadOf_51 : decode cX1_goesAheadOf 51 = .ok (.goto 23, 3) := by decide +kernel
theorem dX1_goesAheadOf_54 : decode cX1_goesAheadOf 54 = .ok (.iconst 0, 1) := by decide +kernel
theorem dX1_goesAheadOf_55 : decode cX1_goesAheadOf 55 = .ok (.goto 19, 3) := by decide +kernel
theorem dX1_goesAheadOf_58 : decode cX1_goesAheadOf 58 = .ok (.aload_n 0, 1) := by decide +kernel
theorem dX1_goesAheadOf_59 : decode cX1_goesAheadOf 59 = .ok (.getfield 9, 3) := by decide +kernel
theorem dX1_goesAheadOf_62 : decode cX1_goesAheadOf 62 = .ok (.aload_n 1, 1) := by decide +kernel
theorem dX1_goesAheadOf_63 : decode cX1_goesAheadOf 63 = .ok (.getfield 9, 3) := by decide +kernel
theorem dX1_goesAheadOf_66 : decode cX1_goesAheadOf 66 = .ok (.if_icmp .ge 7, 3) := by decide +kernel
theorem dX1_goesAheadOf_69 : decode cX1_goesAheadOf 69 = .ok (.iconst 1, 1) := by decide +kernel
theorem dX1_goesAheadOf_70 : decode cX1_goesAheadOf 70 = .ok (.goto 4, 3) := by decide +kernel
theorem dX1_goesAheadOf_73 : decode cX1_goesAheadOf 73 = .ok (.iconst 0, 1) := by decide +kernel
theorem dX1_goesAheadOf_74 : decode cX1_goesAheadOf 74 = .ok (.ireturn, 1) := by decide +kernel
theorem dX1_begin_0 : decode cX1_begin 0 = .ok (.aload_n 0, 1) := by decide +kernel
theorem dX1_begin_1 : decode cX1_begin 1 = .ok (.getfield 40, 3) := by decide +kernel
theorem dX1_begin_4 : decode cX1_begin 4 = .ok (.ifnonnull 11, 3) := by decide +kernel
theorem dX1_begin_7 : decode cX1_begin 7 = .ok (.aload_n 0, 1) := by decide +kernel
theorem dX1_begin_8 : decode cX1_begin 8 = .ok (.aload_n 1, 1) := by decide +kernel
theorem dX1_begin_9 : decode cX1_begin 9 = .ok (.putfield 40, 3) := by decide +kernel
theorem dX1_begin_12 : decode cX1_begin 12 = .ok (.goto 8, 3) := by decide +kernel
theorem dX1_begin_15 : decode cX1_begin 15 = .ok (.aload_n 0, 1) := by decide +kernel
theorem dX1_begin_16 : decode cX1_begin 16 = .ok (.aload_n 1, 1) := by decide +kernel
theorem dX1_begin_17 : decode cX1_begin 17 = .ok (.putfield 44, 3) := by decide +kernel
theorem dX1_begin_20 : decode cX1_begin 20 = .ok (.aload_n 0, 1) := by decide +kernel
theorem dX1_begin_21 : decode cX1_begin 21 = .ok (.dup, 1) := by decide +kernel
theorem dX1_begin_22 : decode cX1_begin 22 = .ok (.getfield 47, 3) := by decide +kernel
theorem dX1_begin_25 : decode cX1_begin 25 = .ok (.iconst 1, 1) := by decide +kernel
theorem dX1_begin_26 : decode cX1_begin 26 = .ok (.aload_n 1, 1) := by decide +kernel
theorem dX1_begin_27 : decode cX1_begin 27 = .ok (.getfield 50, 3) := by decide +kernel
theorem dX1_begin_30 : decode cX1_begin 30 = .ok (.getfield 56, 3) := by decide +kernel
theorem dX1_begin_33 : decode cX1_begin 33 = .ok (.ishl, 1) := by decide +kernel
theorem dX1_begin_34 : decode cX1_begin 34 = .ok (.ior, 1) := by decide +kernel
theorem dX1_begin_35 : decode cX1_begin 35 = .ok (.putfield 47, 3) := by decide +kernel
theorem dX1_begin_38 : decode cX1_begin 38 = .ok (.aload_n 0, 1) := by decide +kernel
theorem dX1_begin_39 : decode cX1_begin 39 = .ok (.iconst 1, 1) := by decide +kernel
theorem dX1_begin_40 : decode cX1_begin 40 = .ok (.putfield 31, 3) := by decide +kernel
theorem dX1_begin_43 : decode cX1_begin 43 = .ok (.return_, 1) := by decide +kernel
theorem dX1_letGo_0 : decode cX1_letGo 0 = .ok (.aload_n 1, 1) := by decide +kernel
theorem dX1_letGo_1 : decode cX1_letGo 1 = .ok (.getfield 50, 3) := by decide +kernel
theorem dX1_letGo_4 : decode cX1_letGo 4 = .ok (.dup, 1) := by decide +kernel
theorem dX1_letGo_5 : decode cX1_letGo 5 = .ok (.getfield 59, 3) := by decide +kernel
theorem dX1_letGo_8 : decode cX1_letGo 8 = .ok (.iconst 1, 1) := by decide +kernel
theorem dX1_letGo_9 : decode cX1_letGo 9 = .ok (.isub, 1) := by decide +kernel
theorem dX1_letGo_10 : decode cX1_letGo 10 = .ok (.putfield 59, 3) := by decide +kernel
theorem dX1_letGo_13 : decode cX1_letGo 13 = .ok (.aload_n 1, 1) := by decide +kernel
theorem dX1_letGo_14 : decode cX1_letGo 14 = .ok (.aload_n 0, 1) := by decide +kernel
theorem dX1_letGo_15 : decode cX1_letGo 15 = .ok (.getfield 40, 3) := by decide +kernel
theorem dX1_letGo_18 : decode cX1_letGo 18 = .ok (.if_acmp .ne 11, 3) := by decide +kernel
theorem dX1_letGo_21 : decode cX1_letGo 21 = .ok (.aload_n 0, 1) := by decide +kernel
theorem dX1_letGo_22 : decode cX1_letGo 22 = .ok (.aload_n 0, 1) := by decide +kernel
theorem dX1_letGo_23 : decode cX1_letGo 23 = .ok (.getfield 44, 3) := by decide +kernel
theorem dX1_letGo_26 : decode cX1_letGo 26 = .ok (.putfield 40, 3) := by decide +kernel
theorem dX1_letGo_29 : decode cX1_letGo 29 = .ok (.aload_n 0, 1) := by decide +kernel
theorem dX1_letGo_30 : decode cX1_letGo 30 = .ok (.aconst_null, 1) := by decide +kernel
theorem dX1_letGo_31 : decode cX1_letGo 31 = .ok (.putfield 44, 3) := by decide +kernel
theorem dX1_letGo_34 : decode cX1_letGo 34 = .ok (.return_, 1) := by decide +kernel
theorem dX1_callOffAll_0 : decode cX1_callOffAll 0 = .ok (.aload_n 0, 1) := by decide +kernel
theorem dX1_callOffAll_1 : decode cX1_callOffAll 1 = .ok (.getfield 44, 3) := by decide +kernel
theorem dX1_callOffAll_4 : decode cX1_callOffAll 4 = .ok (.ifnull 11, 3) := by decide +kernel
theorem dX1_callOffAll_7 : decode cX1_callOffAll 7 = .ok (.aload_n 0, 1) := by decide +kernel
theorem dX1_callOffAll_8 : decode cX1_callOffAll 8 = .ok (.aload_n 0, 1) := by decide +kernel
theorem dX1_callOffAll_9 : decode cX1_callOffAll 9 = .ok (.getfield 44, 3) := by decide +kernel
theorem dX1_callOffAll_12 : decode cX1_callOffAll 12 = .ok (.invokevirtual 62, 3) := by decide +kernel
theorem dX1_callOffAll_15 : decode cX1_callOffAll 15 = .ok (.aload_n 0, 1) := by decide +kernel
theorem dX1_callOffAll_16 : decode cX1_callOffAll 16 = .ok (.getfield 40, 3) := by decide +kernel
theorem dX1_callOffAll_19 : decode cX1_callOffAll 19 = .ok (.ifnull 11, 3) := by decide +kernel
theorem dX1_callOffAll_22 : decode cX1_callOffAll 22 = .ok (.aload_n 0, 1) := by decide +kernel
theorem dX1_callOffAll_23 : decode cX1_callOffAll 23 = .ok (.aload_n 0, 1) := by decide +kernel
theorem dX1_callOffAll_24 : decode cX1_callOffAll 24 = .ok (.getfield 40, 3) := by decide +kernel
theorem dX1_callOffAll_27 : decode cX1_callOffAll 27 = .ok (.invokevirtual 62, 3) := by decide +kernel
theorem dX1_callOffAll_30 : decode cX1_callOffAll 30 = .ok (.return_, 1) := by decide +kernel
theorem dX1_tell_0 : decode cX1_tell 0 = .ok (.iload_n 1, 1) := by decide +kernel
theorem dX1_tell_1 : decode cX1_tell 1 = .ok (.tableswitch 170 0 9 #[55, 60, 65, 70, 75, 88, 112, 137, 160, 165], 55) := by decide +kernel
theorem dX1_tell_56 : decode cX1_tell 56 = .ok (.aload_n 0, 1) := by decide +kernel
theorem dX1_tell_57 : decode cX1_tell 57 = .ok (.getfield 31, 3) := by decide +kernel
theorem dX1_tell_60 : decode cX1_tell 60 = .ok (.ireturn, 1) := by decide +kernel
theorem dX1_tell_61 : decode cX1_tell 61 = .ok (.aload_n 0, 1) := by decide +kernel
theorem dX1_tell_62 : decode cX1_tell 62 = .ok (.getfield 15, 3) := by decide +kernel
theorem dX1_tell_65 : decode cX1_tell 65 = .ok (.ireturn, 1) := by decide +kernel
theorem dX1_tell_66 : decode cX1_tell 66 = .ok (.aload_n 0, 1) := by decide +kernel
theorem dX1_tell_67 : decode cX1_tell 67 = .ok (.getfield 18, 3) := by decide +kernel
theorem dX1_tell_70 : decode cX1_tell 70 = .ok (.ireturn, 1) := by decide +kernel
theorem dX1_tell_71 : decode cX1_tell 71 = .ok (.aload_n 0, 1) := by decide +kernel
theorem dX1_tell_72 : decode cX1_tell 72 = .ok (.getfield 24, 3) := by decide +kernel
theorem dX1_tell_75 : decode cX1_tell 75 = .ok (.ireturn, 1) := by decide +kernel
theorem dX1_tell_76 : decode cX1_tell 76 = .ok (.aload_n 0, 1) := by decide +kernel
theorem dX1_tell_77 : decode cX1_tell 77 = .ok (.getfield 27, 3) := by decide +kernel
theorem dX1_tell_80 : decode cX1_tell 80 = .ok (.ifCond .eq 7, 3) := by decide +kernel
theorem dX1_tell_83 : decode cX1_tell 83 = .ok (.iconst 1, 1) := by decide +kernel
theorem dX1_tell_84 : decode cX1_tell 84 = .ok (.goto 4, 3) := by decide +kernel
theorem dX1_tell_87 : decode cX1_tell 87 = .ok (.iconst 0, 1) := by decide +kernel
theorem dX1_tell_88 : decode cX1_tell 88 = .ok (.ireturn, 1) := by decide +kernel
theorem dX1_tell_89 : decode cX1_tell 89 = .ok (.aload_n 0, 1) := by decide +kernel
theorem dX1_tell_90 : decode cX1_tell 90 = .ok (.getfield 40, 3) := by decide +kernel
theorem dX1_tell_93 : decode cX1_tell 93 = .ok (.ifnonnull 7, 3) := by decide +kernel
theorem dX1_tell_96 : decode cX1_tell 96 = .ok (.iconst 0, 1) := by decide +kernel
theorem dX1_tell_97 : decode cX1_tell 97 = .ok (.goto 15, 3) := by decide +kernel
theorem dX1_tell_100 : decode cX1_tell 100 = .ok (.aload_n 0, 1) := by decide +kernel
theorem dX1_tell_101 : decode cX1_tell 101 = .ok (.getfield 44, 3) := by decide +kernel
theorem dX1_tell_104 : decode cX1_tell 104 = .ok (.ifnonnull 7, 3) := by decide +kernel
theorem dX1_tell_107 : decode cX1_tell 107 = .ok (.iconst 1, 1) := by decide +kernel
theorem dX1_tell_108 : decode cX1_tell 108 = .ok (.goto 4, 3) := by decide +kernel
theorem dX1_tell_111 : decode cX1_tell 111 = .ok (.iconst 2, 1) := by decide +kernel
theorem dX1_tell_112 : decode cX1_tell 112 = .ok (.ireturn, 1) := by decide +kernel
theorem dX1_tell_113 : decode cX1_tell 113 = .ok (.aload_n 0, 1) := by decide +kernel
theorem dX1_tell_114 : decode cX1_tell 114 = .ok (.getfield 40, 3) := by decide +kernel
theorem dX1_tell_117 : decode cX1_tell 117 = .ok (.ifnonnull 10, 3) := by decide +kernel
theorem dX1_tell_120 : decode cX1_tell 120 = .ok (.aload_n 0, 1) := by decide +kernel
theorem dX1_tell_121 : decode cX1_tell 121 = .ok (.getfield 37, 3) := by decide +kernel
theorem dX1_tell_124 : decode cX1_tell 124 = .ok (.goto 13, 3) := by decide +kernel
theorem dX1_tell_127 : decode cX1_tell 127 = .ok (.aload_n 0, 1) := by decide +kernel
theorem dX1_tell_128 : decode cX1_tell 128 = .ok (.getfield 40, 3) := by decide +kernel
theorem dX1_tell_131 : decode cX1_tell 131 = .ok (.getfield 50, 3) := by decide +kernel
theorem dX1_tell_134 : decode cX1_tell 134 = .ok (.getfield 56, 3) := by decide +kernel
theorem dX1_tell_137 : decode cX1_tell 137 = .ok (.ireturn, 1) := by decide +kernel
theorem dX1_tell_138 : decode cX1_tell 138 = .ok (.aload_n 0, 1) := by decide +kernel
theorem dX1_tell_139 : decode cX1_tell 139 = .ok (.getfield 44, 3) := by decide +kernel
theorem dX1_tell_142 : decode cX1_tell 142 = .ok (.ifnonnull 8, 3) := by decide +kernel
theorem dX1_tell_145 : decode cX1_tell 145 = .ok (.bipush (-9), 2) := by decide +kernel
theorem dX1_tell_147 : decode cX1_tell 147 = .ok (.goto 13, 3) := by decide +kernel
theorem dX1_tell_150 : decode cX1_tell 150 = .ok (.aload_n 0, 1) := by decide +kernel
theorem dX1_tell_151 : decode cX1_tell 151 = .ok (.getfield 44, 3) := by decide +kernel
theorem dX1_tell_154 : decode cX1_tell 154 = .ok (.getfield 50, 3) := by decide +kernel
theorem dX1_tell_157 : decode cX1_tell 157 = .ok (.getfield 56, 3) := by decide +kernel
theorem dX1_tell_160 : decode cX1_tell 160 = .ok (.ireturn, 1) := by decide +kernel
theorem dX1_tell_161 : decode cX1_tell 161 = .ok (.aload_n 0, 1) := by decide +kernel
theorem dX1_tell_162 : decode cX1_tell 162 = .ok (.getfield 47, 3) := by decide +kernel
theorem dX1_tell_165 : decode cX1_tell 165 = .ok (.ireturn, 1) := by decide +kernel
theorem dX1_tell_166 : decode cX1_tell 166 = .ok (.aload_n 0, 1) := by decide +kernel
theorem dX1_tell_167 : decode cX1_tell 167 = .ok (.getfield 21, 3) := by decide +kernel
theorem dX1_tell_170 : decode cX1_tell 170 = .ok (.ireturn, 1) := by decide +kernel
theorem dX1_tell_171 : decode cX1_tell 171 = .ok (.aload_n 0, 1) := by decide +kernel
theorem dX1_tell_172 : decode cX1_tell 172 = .ok (.getfield 34, 3) := by decide +kernel
theorem dX1_tell_175 : decode cX1_tell 175 = .ok (.ireturn, 1) := by decide +kernel
theorem dX2_init_0 : decode cX2_init 0 = .ok (.aload_n 0, 1) := by decide +kernel
theorem dX2_init_1 : decode cX2_init 1 = .ok (.invokespecial 3, 3) := by decide +kernel
theorem dX2_init_4 : decode cX2_init 4 = .ok (.aload_n 0, 1) := by decide +kernel
theorem dX2_init_5 : decode cX2_init 5 = .ok (.iload_n 1, 1) := by decide +kernel
theorem dX2_init_6 : decode cX2_init 6 = .ok (.putfield 9, 3) := by decide +kernel
theorem dX2_init_9 : decode cX2_init 9 = .ok (.aload_n 0, 1) := by decide +kernel
theorem dX2_init_10 : decode cX2_init 10 = .ok (.iload_n 2, 1) := by decide +kernel
theorem dX2_init_11 : decode cX2_init 11 = .ok (.putfield 15, 3) := by decide +kernel
theorem dX2_init_14 : decode cX2_init 14 = .ok (.aload_n 0, 1) := by decide +kernel
theorem dX2_init_15 : decode cX2_init 15 = .ok (.iload_n 3, 1) := by decide +kernel
theorem dX2_init_16 : decode cX2_init 16 = .ok (.putfield 18, 3) := by decide +kernel
theorem dX2_init_19 : decode cX2_init 19 = .ok (.aload_n 0, 1) := by decide +kernel
theorem dX2_init_20 : decode cX2_init 20 = .ok (.iload 4, 2) := by decide +kernel
theorem dX2_init_22 : decode cX2_init 22 = .ok (.putfield 21, 3) := by decide +kernel
theorem dX2_init_25 : decode cX2_init 25 = .ok (.aload_n 0, 1) := by decide +kernel
theorem dX2_init_26 : decode cX2_init 26 = .ok (.iload 5, 2) := by decide +kernel
theorem dX2_init_28 : decode cX2_init 28 = .ok (.putfield 24, 3) := by decide +kernel
theorem dX2_init_31 : decode cX2_init 31 = .ok (.aload_n 0, 1) := by decide +kernel
theorem dX2_init_32 : decode cX2_init 32 = .ok (.iload 6, 2) := by decide +kernel
theorem dX2_init_34 : decode cX2_init 34 = .ok (.putfield 27, 3) := by decide +kernel
theorem dX2_init_37 : decode cX2_init 37 = .ok (.aload_n 0, 1) := by decide +kernel
theorem dX2_init_38 : decode cX2_init 38 = .ok (.iconst 0, 1) := by decide +kernel
theorem dX2_init_39 : decode cX2_init 39 = .ok (.putfield 30, 3) := by decide +kernel
theorem dX2_init_42 : decode cX2_init 42 = .ok (.aload_n 0, 1) := by decide +kernel
theorem dX2_init_43 : decode cX2_init 43 = .ok (.bipush 10, 2) := by decide +kernel
theorem dX2_init_45 : decode cX2_init 45 = .ok (.putfield 33, 3) := by decide +kernel
theorem dX2_init_48 : decode cX2_init 48 = .ok (.return_, 1) := by decide +kernel
theorem dX2_mayBeAsked_0 : decode cX2_mayBeAsked 0 = .ok (.iload_n 1, 1) := by decide +kernel
theorem dX2_mayBeAsked_1 : decode cX2_mayBeAsked 1 = .ok (.aload_n 0, 1) := by decide +kernel
theorem dX2_mayBeAsked_2 : decode cX2_mayBeAsked 2 = .ok (.getfield 9, 3) := by decide +kernel
theorem dX2_mayBeAsked_5 : decode cX2_mayBeAsked 5 = .ok (.ishr, 1) := by decide +kernel
theorem dX2_mayBeAsked_6 : decode cX2_mayBeAsked 6 = .ok (.iconst 1, 1) := by decide +kernel
theorem dX2_mayBeAsked_7 : decode cX2_mayBeAsked 7 = .ok (.iand, 1) := by decide +kernel
theorem dX2_mayBeAsked_8 : decode cX2_mayBeAsked 8 = .ok (.ifCond .ne 14, 3) := by decide +kernel
theorem dX2_mayBeAsked_11 : decode cX2_mayBeAsked 11 = .ok (.aload_n 0, 1) := by decide +kernel
theorem dX2_mayBeAsked_12 : decode cX2_mayBeAsked 12 = .ok (.getfield 36, 3) := by decide +kernel
theorem dX2_mayBeAsked_15 : decode cX2_mayBeAsked 15 = .ok (.aload_n 0, 1) := by decide +kernel
theorem dX2_mayBeAsked_16 : decode cX2_mayBeAsked 16 = .ok (.getfield 21, 3) := by decide +kernel
theorem dX2_mayBeAsked_19 : decode cX2_mayBeAsked 19 = .ok (.if_icmp .lt 5, 3) := by decide +kernel
theorem dX2_mayBeAsked_22 : decode cX2_mayBeAsked 22 = .ok (.iconst 0, 1) := by decide +kernel
theorem dX2_mayBeAsked_23 : decode cX2_mayBeAsked 23 = .ok (.ireturn, 1) := by decide +kernel
theorem dX2_mayBeAsked_24 : decode cX2_mayBeAsked 24 = .ok (.aload_n 0, 1) := by decide +kernel
theorem dX2_mayBeAsked_25 : decode cX2_mayBeAsked 25 = .ok (.getfield 30, 3) := by decide +kernel
theorem dX2_mayBeAsked_28 : decode cX2_mayBeAsked 28 = .ok (.ifCond .eq 18, 3) := by decide +kernel
theorem dX2_mayBeAsked_31 : decode cX2_mayBeAsked 31 = .ok (.aload_n 0, 1) := by decide +kernel
theorem dX2_mayBeAsked_32 : decode cX2_mayBeAsked 32 = .ok (.getfield 30, 3) := by decide +kernel
theorem dX2_mayBeAsked_35 : decode cX2_mayBeAsked 35 = .ok (.iconst 2, 1) := by decide +kernel
theorem dX2_mayBeAsked_36 : decode cX2_mayBeAsked 36 = .ok (.if_icmp .ne 14, 3) := by decide +kernel
theorem dX2_mayBeAsked_39 : decode cX2_mayBeAsked 39 = .ok (.aload_n 0, 1) := by decide +kernel
theorem dX2_mayBeAsked_40 : decode cX2_mayBeAsked 40 = .ok (.getfield 36, 3) := by decide +kernel
theorem dX2_mayBeAsked_43 : decode cX2_mayBeAsked 43 = .ok (.ifCond .ne 7, 3) := by decide +kernel
theorem dX2_mayBeAsked_46 : decode cX2_mayBeAsked 46 = .ok (.iconst 1, 1) := by decide +kernel
theorem dX2_mayBeAsked_47 : decode cX2_mayBeAsked 47 = .ok (.goto 4, 3) := by decide +kernel
theorem dX2_mayBeAsked_50 : decode cX2_mayBeAsked 50 = .ok (.iconst 0, 1) := by decide +kernel
theorem dX2_mayBeAsked_51 : decode cX2_mayBeAsked 51 = .ok (.ireturn, 1) := by decide +kernel
theorem dX2_placeOfMark_0 : decode cX2_placeOfMark 0 = .ok (.ldc 39, 2) := by decide +kernel
theorem dX2_placeOfMark_2 : decode cX2_placeOfMark 2 = .ok (.iconst 4, 1) := by decide +kernel
theorem dX2_placeOfMark_3 : decode cX2_placeOfMark 3 = .ok (.aload_n 0, 1) := by decide +kernel
theorem dX2_placeOfMark_4 : decode cX2_placeOfMark 4 = .ok (.getfield 9, 3) := by decide +kernel
theorem dX2_placeOfMark_7 : decode cX2_placeOfMark 7 = .ok (.imul, 1) := by decide +kernel
theorem dX2_placeOfMark_8 : decode cX2_placeOfMark 8 = .ok (.iload_n 1, 1) := by decide +kernel
theorem dX2_placeOfMark_9 : decode cX2_placeOfMark 9 = .ok (.iadd, 1) := by decide +kernel
theorem dX2_placeOfMark_10 : decode cX2_placeOfMark 10 = .ok (.iconst 1, 1) := by decide +kernel
theorem dX2_placeOfMark_11 : decode cX2_placeOfMark 11 = .ok (.iadd, 1) := by decide +kernel
theorem dX2_placeOfMark_12 : decode cX2_placeOfMark 12 = .ok (.imul, 1) := by decide +kernel
theorem dX2_placeOfMark_13 : decode cX2_placeOfMark 13 = .ok (.ldc 40, 2) := by decide +kernel
theorem dX2_placeOfMark_15 : decode cX2_placeOfMark 15 = .ok (.iand, 1) := by decide +kernel
theorem dX2_placeOfMark_16 : decode cX2_placeOfMark 16 = .ok (.ireturn, 1) := by decide +kernel
theorem dX2_wayFrom_0 : decode cX2_wayFrom 0 = .ok (.ldc 40, 2) := by decide +kernel
theorem dX2_wayFrom_2 : decode cX2_wayFrom 2 = .ok (.istore_n 2, 1) := by decide +kernel
theorem dX2_wayFrom_3 : decode cX2_wayFrom 3 = .ok (.iconst 0, 1) := by decide +kernel
theorem dX2_wayFrom_4 : decode cX2_wayFrom 4 = .ok (.istore_n 3, 1) := by decide +kernel
theorem dX2_wayFrom_5 : decode cX2_wayFrom 5 = .ok (.iload_n 3, 1) := by decide +kernel
theorem dX2_wayFrom_6 : decode cX2_wayFrom 6 = .ok (.iconst 4, 1) := by decide +kernel
theorem dX2_wayFrom_7 : decode cX2_wayFrom 7 = .ok (.if_icmp .ge 24, 3) := by decide +kernel
theorem dX2_wayFrom_10 : decode cX2_wayFrom 10 = .ok (.iload_n 2, 1) := by decide +kernel
theorem dX2_wayFrom_11 : decode cX2_wayFrom 11 = .ok (.aload_n 0, 1) := by decide +kernel
theorem dX2_wayFrom_12 : decode cX2_wayFrom 12 = .ok (.iload_n 3, 1) := by decide +kernel
theorem dX2_wayFrom_13 : decode cX2_wayFrom 13 = .ok (.invokevirtual 41, 3) := by decide +kernel
theorem dX2_wayFrom_16 : decode cX2_wayFrom 16 = .ok (.iload_n 1, 1) := by decide +kernel
theorem dX2_wayFrom_17 : decode cX2_wayFrom 17 = .ok (.isub, 1) := by decide +kernel
theorem dX2_wayFrom_18 : decode cX2_wayFrom 18 = .ok (.ldc 40, 2) := by decide +kernel
theorem dX2_wayFrom_20 : decode cX2_wayFrom 20 = .ok (.iand, 1) := by decide +kernel
theorem dX2_wayFrom_21 : decode cX2_wayFrom 21 = .ok (.invokestatic 45, 3) := by decide +kernel
theorem dX2_wayFrom_24 : decode cX2_wayFrom 24 = .ok (.istore_n 2, 1) := by decide +kernel
theorem dX2_wayFrom_25 : decode cX2_wayFrom 25 = .ok (.iinc 3 1, 3) := by decide +kernel
theorem dX2_wayFrom_28 : decode cX2_wayFrom 28 = .ok (.goto (-23), 3) := by decide +kernel
theorem dX2_wayFrom_31 : decode cX2_wayFrom 31 = .ok (.iload_n 2, 1) := by decide +kernel
theorem dX2_wayFrom_32 : decode cX2_wayFrom 32 = .ok (.ireturn, 1) := by decide +kernel
theorem dX2_takeAsking_0 : decode cX2_takeAsking 0 = .ok (.aload_n 0, 1) := by decide +kernel
theorem dX2_takeAsking_1 : decode cX2_takeAsking 1 = .ok (.dup, 1) := by decide +kernel
theorem dX2_takeAsking_2 : decode cX2_takeAsking 2 = .ok (.getfield 51, 3) := by decide +kernel
theorem dX2_takeAsking_5 : decode cX2_takeAsking 5 = .ok (.iconst 1, 1) := by decide +kernel
theorem dX2_takeAsking_6 : decode cX2_takeAsking 6 = .ok (.iadd, 1) := by decide +kernel
theorem dX2_takeAsking_7 : decode cX2_takeAsking 7 = .ok (.putfield 51, 3) := by decide +kernel
theorem dX2_takeAsking_10 : decode cX2_takeAsking 10 = .ok (.aload_n 0, 1) := by decide +kernel
theorem dX2_takeAsking_11 : decode cX2_takeAsking 11 = .ok (.dup, 1) := by decide +kernel
theorem dX2_takeAsking_12 : decode cX2_takeAsking 12 = .ok (.getfield 36, 3) := by decide +kernel
theorem dX2_takeAsking_15 : decode cX2_takeAsking 15 = .ok (.iconst 1, 1) := by decide +kernel
theorem dX2_takeAsking_16 : decode cX2_takeAsking 16 = .ok (.iadd, 1) := by decide +kernel
theorem dX2_takeAsking_17 : decode cX2_takeAsking 17 = .ok (.putfield 36, 3) := by decide +kernel
theorem dX2_takeAsking_20 : decode cX2_takeAsking 20 = .ok (.aload_n 0, 1) := by decide +kernel
theorem dX2_takeAsking_21 : decode cX2_takeAsking 21 = .ok (.getfield 54, 3) := by decide +kernel
theorem dX2_takeAsking_24 : decode cX2_takeAsking 24 = .ok (.iconst 1, 1) := by decide +kernel
theorem dX2_takeAsking_25 : decode cX2_takeAsking 25 = .ok (.if_icmp .ne 7, 3) := by decide +kernel
theorem dX2_takeAsking_28 : decode cX2_takeAsking 28 = .ok (.iconst (-1), 1) := by decide +kernel
theorem dX2_takeAsking_29 : decode cX2_takeAsking 29 = .ok (.goto 9, 3) := by decide +kernel
theorem dX2_takeAsking_32 : decode cX2_takeAsking 32 = .ok (.iload_n 1, 1) := by decide +kernel
theorem dX2_takeAsking_33 : decode cX2_takeAsking 33 = .ok (.aload_n 0, 1) := by decide +kernel
theorem dX2_takeAsking_34 : decode cX2_takeAsking 34 = .ok (.getfield 24, 3) := by decide +kernel
theorem dX2_takeAsking_37 : decode cX2_takeAsking 37 = .ok (.iadd, 1) := by decide +kernel
theorem dX2_takeAsking_38 : decode cX2_takeAsking 38 = .ok (.istore_n 2, 1) := by decide +kernel
theorem dX2_takeAsking_39 : decode cX2_takeAsking 39 = .ok (.aload_n 0, 1) := by decide +kernel
theorem dX2_takeAsking_40 : decode cX2_takeAsking 40 = .ok (.getfield 27, 3) := by decide +kernel
theorem dX2_takeAsking_43 : decode cX2_takeAsking 43 = .ok (.ifCond .eq 19, 3) := by decide +kernel
theorem dX2_takeAsking_46 : decode cX2_takeAsking 46 = .ok (.aload_n 0, 1) := by decide +kernel
theorem dX2_takeAsking_47 : decode cX2_takeAsking 47 = .ok (.getfield 51, 3) := by decide +kernel
theorem dX2_takeAsking_50 : decode cX2_takeAsking 50 = .ok (.aload_n 0, 1) := by decide +kernel
theorem dX2_takeAsking_51 : decode cX2_takeAsking 51 = .ok (.getfield 27, 3) := by decide +kernel
theorem dX2_takeAsking_54 : decode cX2_takeAsking 54 = .ok (.irem, 1) := by decide +kernel
theorem dX2_takeAsking_55 : decode cX2_takeAsking 55 = .ok (.ifCond .ne 7, 3) := by decide +kernel
theorem dX2_takeAsking_58 : decode cX2_takeAsking 58 = .ok (.iconst 1, 1) := by decide +kernel
theorem dX2_takeAsking_59 : decode cX2_takeAsking 59 = .ok (.goto 4, 3) := by decide +kernel
theorem dX2_takeAsking_62 : decode cX2_takeAsking 62 = .ok (.iconst 0, 1) := by decide +kernel
theorem dX2_takeAsking_63 : decode cX2_takeAsking 63 = .ok (.istore_n 3, 1) := by decide +kernel
theorem dX2_takeAsking_64 : decode cX2_takeAsking 64 = .ok (.new 57, 3) := by decide +kernel
theorem dX2_takeAsking_67 : decode cX2_takeAsking 67 = .ok (.dup, 1) := by decide +kernel
theorem dX2_takeAsking_68 : decode cX2_takeAsking 68 = .ok (.aload_n 0, 1) := by decide +kernel
theorem dX2_takeAsking_69 : decode cX2_takeAsking 69 = .ok (.iload_n 1, 1) := by decide +kernel
theorem dX2_takeAsking_70 : decode cX2_takeAsking 70 = .ok (.iload_n 2, 1) := by decide +kernel
theorem dX2_takeAsking_71 : decode cX2_takeAsking 71 = .ok (.iload_n 3, 1) := by decide +kernel
theorem dX2_takeAsking_72 : decode cX2_takeAsking 72 = .ok (.invokespecial 59, 3) := by decide +kernel
theorem dX2_takeAsking_75 : decode cX2_takeAsking 75 = .ok (.areturn, 1) := by decide +kernel
theorem dX2_answer_0 : decode cX2_answer 0 = .ok (.aload_n 0, 1) := by decide +kernel
theorem dX2_answer_1 : decode cX2_answer 1 = .ok (.dup, 1) := by decide +kernel
theorem dX2_answer_2 : decode cX2_answer 2 = .ok (.getfield 62, 3) := by decide +kernel
theorem dX2_answer_5 : decode cX2_answer 5 = .ok (.iconst 1, 1) := by decide +kernel
theorem dX2_answer_6 : decode cX2_answer 6 = .ok (.iadd, 1) := by decide +kernel
theorem dX2_answer_7 : decode cX2_answer 7 = .ok (.putfield 62, 3) := by decide +kernel
theorem dX2_answer_10 : decode cX2_answer 10 = .ok (.aload_n 0, 1) := by decide +kernel
theorem dX2_answer_11 : decode cX2_answer 11 = .ok (.iconst 0, 1) := by decide +kernel
theorem dX2_answer_12 : decode cX2_answer 12 = .ok (.putfield 65, 3) := by decide +kernel
theorem dX2_answer_15 : decode cX2_answer 15 = .ok (.aload_n 0, 1) := by decide +kernel
theorem dX2_answer_16 : decode cX2_answer 16 = .ok (.bipush 10, 2) := by decide +kernel
theorem dX2_answer_18 : decode cX2_answer 18 = .ok (.putfield 33, 3) := by decide +kernel
theorem dX2_answer_21 : decode cX2_answer 21 = .ok (.aload_n 0, 1) := by decide +kernel
theorem dX2_answer_22 : decode cX2_answer 22 = .ok (.getfield 30, 3) := by decide +kernel
theorem dX2_answer_25 : decode cX2_answer 25 = .ok (.iconst 2, 1) := by decide +kernel
theorem dX2_answer_26 : decode cX2_answer 26 = .ok (.if_icmp .ne 8, 3) := by decide +kernel
theorem dX2_answer_29 : decode cX2_answer 29 = .ok (.aload_n 0, 1) := by decide +kernel
theorem dX2_answer_30 : decode cX2_answer 30 = .ok (.iconst 0, 1) := by decide +kernel
theorem dX2_answer_31 : decode cX2_answer 31 = .ok (.putfield 30, 3) := by decide +kernel
theorem dX2_answer_34 : decode cX2_answer 34 = .ok (.return_, 1) := by decide +kernel
theorem dX2_goOut_0 : decode cX2_goOut 0 = .ok (.aload_n 0, 1) := by decide +kernel
theorem dX2_goOut_1 : decode cX2_goOut 1 = .ok (.iconst 1, 1) := by decide +kernel
theorem dX2_goOut_2 : decode cX2_goOut 2 = .ok (.putfield 30, 3) := by decide +kernel
theorem dX2_goOut_5 : decode cX2_goOut 5 = .ok (.aload_n 0, 1) := by decide +kernel
theorem dX2_goOut_6 : decode cX2_goOut 6 = .ok (.iload_n 1, 1) := by decide +kernel
theorem dX2_goOut_7 : decode cX2_goOut 7 = .ok (.aload_n 0, 1) := by decide +kernel
theorem dX2_goOut_8 : decode cX2_goOut 8 = .ok (.getfield 33, 3) := by decide +kernel
theorem dX2_goOut_11 : decode cX2_goOut 11 = .ok (.iadd, 1) := by decide +kernel
theorem dX2_goOut_12 : decode cX2_goOut 12 = .ok (.putfield 68, 3) := by decide +kernel
theorem dX2_goOut_15 : decode cX2_goOut 15 = .ok (.aload_n 0, 1) := by decide +kernel
theorem dX2_goOut_16 : decode cX2_goOut 16 = .ok (.sipush 320, 3) := by decide +kernel
theorem dX2_goOut_19 : decode cX2_goOut 19 = .ok (.iconst 2, 1) := by decide +kernel
theorem dX2_goOut_20 : decode cX2_goOut 20 = .ok (.aload_n 0, 1) := by decide +kernel
theorem dX2_goOut_21 : decode cX2_goOut 21 = .ok (.getfield 33, 3) := by decide +kernel
theorem dX2_goOut_24 : decode cX2_goOut 24 = .ok (.imul, 1) := by decide +kernel
theorem dX2_goOut_25 : decode cX2_goOut 25 = .ok (.invokestatic 45, 3) := by decide +kernel
theorem dX2_goOut_28 : decode cX2_goOut 28 = .ok (.putfield 33, 3) := by decide +kernel
theorem dX2_goOut_31 : decode cX2_goOut 31 = .ok (.aload_n 0, 1) := by decide +kernel
theorem dX2_goOut_32 : decode cX2_goOut 32 = .ok (.dup, 1) := by decide +kernel
theorem dX2_goOut_33 : decode cX2_goOut 33 = .ok (.getfield 71, 3) := by decide +kernel
theorem dX2_goOut_36 : decode cX2_goOut 36 = .ok (.iconst 1, 1) := by decide +kernel
theorem dX2_goOut_37 : decode cX2_goOut 37 = .ok (.iadd, 1) := by decide +kernel
theorem dX2_goOut_38 : decode cX2_goOut 38 = .ok (.putfield 71, 3) := by decide +kernel
theorem dX2_goOut_41 : decode cX2_goOut 41 = .ok (.aload_n 0, 1) := by decide +kernel
theorem dX2_goOut_42 : decode cX2_goOut 42 = .ok (.iconst 0, 1) := by decide +kernel
theorem dX2_goOut_43 : decode cX2_goOut 43 = .ok (.putfield 65, 3) := by decide +kernel
theorem dX2_goOut_46 : decode cX2_goOut 46 = .ok (.return_, 1) := by decide +kernel
theorem dX2_change_0 : decode cX2_change 0 = .ok (.aload_n 0, 1) := by decide +kernel
theorem dX2_change_1 : decode cX2_change 1 = .ok (.iload_n 1, 1) := by decide +kernel
theorem dX2_change_2 : decode cX2_change 2 = .ok (.ifCond .ne 8, 3) := by decide +kernel
theorem dX2_change_5 : decode cX2_change 5 = .ok (.bipush 10, 2) := by decide +kernel
theorem dX2_change_7 : decode cX2_change 7 = .ok (.goto 7, 3) := by decide +kernel
theorem dX2_change_10 : decode cX2_change 10 = .ok (.iload_n 1, 1) := by decide +kernel
theorem dX2_change_11 : decode cX2_change 11 = .ok (.bipush 11, 2) := by decide +kernel
theorem dX2_change_13 : decode cX2_change 13 = .ok (.iadd, 1) := by decide +kernel
theorem dX2_change_14 : decode cX2_change 14 = .ok (.invokevirtual 74, 3) := by decide +kernel
theorem dX2_change_17 : decode cX2_change 17 = .ok (.istore_n 3, 1) := by decide +kernel
theorem dX2_change_18 : decode cX2_change 18 = .ok (.iload_n 1, 1) := by decide +kernel
theorem dX2_change_19 : decode cX2_change 19 = .ok (.tableswitch 61 0 3 #[29, 37, 45, 53], 29) := by decide +kernel
theorem dX2_change_48 : decode cX2_change 48 = .ok (.aload_n 0, 1) := by decide +kernel
theorem dX2_change_49 : decode cX2_change 49 = .ok (.iload_n 2, 1) := by decide +kernel
theorem dX2_change_50 : decode cX2_change 50 = .ok (.putfield 15, 3) := by decide +kernel
theorem dX2_change_53 : decode cX2_change 53 = .ok (.goto 32, 3) := by decide +kernel
theorem dX2_change_56 : decode cX2_change 56 = .ok (.aload_n 0, 1) := by decide +kernel
theorem dX2_change_57 : decode cX2_change 57 = .ok (.iload_n 2, 1) := by decide +kernel
theorem dX2_change_58 : decode cX2_change 58 = .ok (.putfield 21, 3) := by decide +kernel
theorem dX2_change_61 : decode cX2_change 61 = .ok (.goto 24, 3) := by decide +kernel
theorem dX2_change_64 : decode cX2_change 64 = .ok (.aload_n 0, 1) := by decide +kernel
theorem dX2_change_65 : decode cX2_change 65 = .ok (.iload_n 2, 1) := by decide +kernel
theorem dX2_change_66 : decode cX2_change 66 = .ok (.putfield 24, 3) := by decide +kernel
theorem dX2_change_69 : decode cX2_change 69 = .ok (.goto 16, 3) := by decide +kernel
theorem dX2_change_72 : decode cX2_change 72 = .ok (.aload_n 0, 1) := by decide +kernel
theorem dX2_change_73 : decode cX2_change 73 = .ok (.iload_n 2, 1) := by decide +kernel
theorem dX2_change_74 : decode cX2_change 74 = .ok (.putfield 27, 3) := by decide +kernel
theorem dX2_change_77 : decode cX2_change 77 = .ok (.goto 8, 3) := by decide +kernel
theorem dX2_change_80 : decode cX2_change 80 = .ok (.aload_n 0, 1) := by decide +kernel
theorem dX2_change_81 : decode cX2_change 81 = .ok (.iload_n 2, 1) := by decide +kernel
theorem dX2_change_82 : decode cX2_change 82 = .ok (.putfield 54, 3) := by decide +kernel
theorem dX2_change_85 : decode cX2_change 85 = .ok (.iload_n 3, 1) := by decide +kernel
theorem dX2_change_86 : decode cX2_change 86 = .ok (.ireturn, 1) := by decide +kernel
theorem dX2_tell_0 : decode cX2_tell 0 = .ok (.iload_n 1, 1) := by decide +kernel
theorem dX2_tell_1 : decode cX2_tell 1 = .ok (.tableswitch 166 0 14 #[75, 80, 85, 90, 95, 100, 105, 123, 128, 133, 141, 146, 151, 156, 161], 75) := by decide +kernel
theorem dX2_tell_76 : decode cX2_tell 76 = .ok (.aload_n 0, 1) := by decide +kernel
theorem dX2_tell_77 : decode cX2_tell 77 = .ok (.getfield 30, 3) := by decide +kernel
theorem dX2_tell_80 : decode cX2_tell 80 = .ok (.ireturn, 1) := by decide +kernel
theorem dX2_tell_81 : decode cX2_tell 81 = .ok (.aload_n 0, 1) := by decide +kernel
theorem dX2_tell_82 : decode cX2_tell 82 = .ok (.getfield 36, 3) := by decide +kernel
theorem dX2_tell_85 : decode cX2_tell 85 = .ok (.ireturn, 1) := by decide +kernel
theorem dX2_tell_86 : decode cX2_tell 86 = .ok (.aload_n 0, 1) := by decide +kernel
theorem dX2_tell_87 : decode cX2_tell 87 = .ok (.getfield 51, 3) := by decide +kernel
theorem dX2_tell_90 : decode cX2_tell 90 = .ok (.ireturn, 1) := by decide +kernel
theorem dX2_tell_91 : decode cX2_tell 91 = .ok (.aload_n 0, 1) := by decide +kernel
theorem dX2_tell_92 : decode cX2_tell 92 = .ok (.getfield 62, 3) := by decide +kernel
theorem dX2_tell_95 : decode cX2_tell 95 = .ok (.ireturn, 1) := by decide +kernel
theorem dX2_tell_96 : decode cX2_tell 96 = .ok (.aload_n 0, 1) := by decide +kernel
theorem dX2_tell_97 : decode cX2_tell 97 = .ok (.getfield 77, 3) := by decide +kernel
theorem dX2_tell_100 : decode cX2_tell 100 = .ok (.ireturn, 1) := by decide +kernel
theorem dX2_tell_101 : decode cX2_tell 101 = .ok (.aload_n 0, 1) := by decide +kernel
theorem dX2_tell_102 : decode cX2_tell 102 = .ok (.getfield 65, 3) := by decide +kernel
theorem dX2_tell_105 : decode cX2_tell 105 = .ok (.ireturn, 1) := by decide +kernel
theorem dX2_tell_106 : decode cX2_tell 106 = .ok (.aload_n 0, 1) := by decide +kernel
theorem dX2_tell_107 : decode cX2_tell 107 = .ok (.getfield 30, 3) := by decide +kernel
theorem dX2_tell_110 : decode cX2_tell 110 = .ok (.iconst 1, 1) := by decide +kernel
theorem dX2_tell_111 : decode cX2_tell 111 = .ok (.if_icmp .ne 10, 3) := by decide +kernel
theorem dX2_tell_114 : decode cX2_tell 114 = .ok (.aload_n 0, 1) := by decide +kernel
theorem dX2_tell_115 : decode cX2_tell 115 = .ok (.getfield 68, 3) := by decide +kernel
theorem dX2_tell_118 : decode cX2_tell 118 = .ok (.goto 5, 3) := by decide +kernel
theorem dX2_tell_121 : decode cX2_tell 121 = .ok (.bipush (-9), 2) := by decide +kernel
theorem dX2_tell_123 : decode cX2_tell 123 = .ok (.ireturn, 1) := by decide +kernel
theorem dX2_tell_124 : decode cX2_tell 124 = .ok (.aload_n 0, 1) := by decide +kernel
theorem dX2_tell_125 : decode cX2_tell 125 = .ok (.getfield 33, 3) := by decide +kernel
theorem dX2_tell_128 : decode cX2_tell 128 = .ok (.ireturn, 1) := by decide +kernel
theorem dX2_tell_129 : decode cX2_tell 129 = .ok (.aload_n 0, 1) := by decide +kernel
theorem dX2_tell_130 : decode cX2_tell 130 = .ok (.getfield 71, 3) := by decide +kernel
theorem dX2_tell_133 : decode cX2_tell 133 = .ok (.ireturn, 1) := by decide +kernel
theorem dX2_tell_134 : decode cX2_tell 134 = .ok (.aload_n 0, 1) := by decide +kernel
theorem dX2_tell_135 : decode cX2_tell 135 = .ok (.getfield 80, 3) := by decide +kernel
theorem dX2_tell_138 : decode cX2_tell 138 = .ok (.ldc 83, 2) := by decide +kernel
theorem dX2_tell_140 : decode cX2_tell 140 = .ok (.iadd, 1) := by decide +kernel
theorem dX2_tell_141 : decode cX2_tell 141 = .ok (.ireturn, 1) := by decide +kernel
theorem dX2_tell_142 : decode cX2_tell 142 = .ok (.aload_n 0, 1) := by decide +kernel
theorem dX2_tell_143 : decode cX2_tell 143 = .ok (.getfield 15, 3) := by decide +kernel
theorem dX2_tell_146 : decode cX2_tell 146 = .ok (.ireturn, 1) := by decide +kernel
theorem dX2_tell_147 : decode cX2_tell 147 = .ok (.aload_n 0, 1) := by decide +kernel
theorem dX2_tell_148 : decode cX2_tell 148 = .ok (.getfield 18, 3) := by decide +kernel
theorem dX2_tell_151 : decode cX2_tell 151 = .ok (.ireturn, 1) := by decide +kernel
theorem dX2_tell_152 : decode cX2_tell 152 = .ok (.aload_n 0, 1) := by decide +kernel
theorem dX2_tell_153 : decode cX2_tell 153 = .ok (.getfield 21, 3) := by decide +kernel
theorem dX2_tell_156 : decode cX2_tell 156 = .ok (.ireturn, 1) := by decide +kernel
theorem dX2_tell_157 : decode cX2_tell 157 = .ok (.aload_n 0, 1) := by decide +kernel
theorem dX2_tell_158 : decode cX2_tell 158 = .ok (.getfield 24, 3) := by decide +kernel
theorem dX2_tell_161 : decode cX2_tell 161 = .ok (.ireturn, 1) := by decide +kernel
theorem dX2_tell_162 : decode cX2_tell 162 = .ok (.aload_n 0, 1) := by decide +kernel
theorem dX2_tell_163 : decode cX2_tell 163 = .ok (.getfield 27, 3) := by decide +kernel
theorem dX2_tell_166 : decode cX2_tell 166 = .ok (.ireturn, 1) := by decide +kernel
theorem dX2_tell_167 : decode cX2_tell 167 = .ok (.aload_n 0, 1) := by decide +kernel
theorem dX2_tell_168 : decode cX2_tell 168 = .ok (.getfield 54, 3) := by decide +kernel
theorem dX2_tell_171 : decode cX2_tell 171 = .ok (.ireturn, 1) := by decide +kernel
