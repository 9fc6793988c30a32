set_option maxRecDepth 20000 in
theorem ggX3_init_Jx4a65c_init_da8c8 : GoodIn wsX3_init wsJx4a65c_init_da8c8 := goodIn_r _ [18, 19, 20, 21, 22, 23, 24, 25, 26, 27, 28, 29, 30, 2, 3, 31, 32, 33] (by decide +kernel) (by decide +kernel)
set_option maxRecDepth 20000 in
theorem gX3_init_Jx4a65c_init_da8c8 : GoodIn wsX3_init (wsJx4a65c_init_da8c8) := ggX3_init_Jx4a65c_init_da8c8
theorem dX3_init_0 : decode cX3_init 0 = .ok (.aload_n 0, 1) := by decide +kernel
theorem dX3_init_1 : decode cX3_init 1 = .ok (.invokespecial 1, 3) := by decide +kernel
theorem dX3_init_4 : decode cX3_init 4 = .ok (.aload_n 0, 1) := by decide +kernel
theorem dX3_init_5 : decode cX3_init 5 = .ok (.new 7, 3) := by decide +kernel
theorem dX3_init_8 : decode cX3_init 8 = .ok (.dup, 1) := by decide +kernel
theorem dX3_init_9 : decode cX3_init 9 = .ok (.invokespecial 9, 3) := by decide +kernel
theorem dX3_init_12 : decode cX3_init 12 = .ok (.putfield 10, 3) := by decide +kernel
theorem dX3_init_15 : decode cX3_init 15 = .ok (.aload_n 0, 1) := by decide +kernel
theorem dX3_init_16 : decode cX3_init 16 = .ok (.new 7, 3) := by decide +kernel
theorem dX3_init_19 : decode cX3_init 19 = .ok (.dup, 1) := by decide +kernel
theorem dX3_init_20 : decode cX3_init 20 = .ok (.invokespecial 9, 3) := by decide +kernel
theorem dX3_init_23 : decode cX3_init 23 = .ok (.putfield 16, 3) := by decide +kernel
theorem dX3_init_26 : decode cX3_init 26 = .ok (.aload_n 0, 1) := by decide +kernel
theorem dX3_init_27 : decode cX3_init 27 = .ok (.new 7, 3) := by decide +kernel
theorem dX3_init_30 : decode cX3_init 30 = .ok (.dup, 1) := by decide +kernel
theorem dX3_init_31 : decode cX3_init 31 = .ok (.invokespecial 9, 3) := by decide +kernel
theorem dX3_init_34 : decode cX3_init 34 = .ok (.putfield 19, 3) := by decide +kernel
theorem dX3_init_37 : decode cX3_init 37 = .ok (.aload_n 0, 1) := by decide +kernel
theorem dX3_init_38 : decode cX3_init 38 = .ok (.new 7, 3) := by decide +kernel
theorem dX3_init_41 : decode cX3_init 41 = .ok (.dup, 1) := by decide +kernel
theorem dX3_init_42 : decode cX3_init 42 = .ok (.invokespecial 9, 3) := by decide +kernel
theorem dX3_init_45 : decode cX3_init 45 = .ok (.putfield 22, 3) := by decide +kernel
theorem dX3_init_48 : decode cX3_init 48 = .ok (.aload_n 0, 1) := by decide +kernel
theorem dX3_init_49 : decode cX3_init 49 = .ok (.bipush 7, 2) := by decide +kernel
theorem dX3_init_51 : decode cX3_init 51 = .ok (.newarray .int, 2) := by decide +kernel
theorem dX3_init_53 : decode cX3_init 53 = .ok (.putfield 25, 3) := by decide +kernel
theorem dX3_init_56 : decode cX3_init 56 = .ok (.aload_n 0, 1) := by decide +kernel
theorem dX3_init_57 : decode cX3_init 57 = .ok (.iconst 0, 1) := by decide +kernel
theorem dX3_init_58 : decode cX3_init 58 = .ok (.putfield 29, 3) := by decide +kernel
theorem dX3_init_61 : decode cX3_init 61 = .ok (.aload_n 0, 1) := by decide +kernel
theorem dX3_init_62 : decode cX3_init 62 = .ok (.iconst 3, 1) := by decide +kernel
theorem dX3_init_63 : decode cX3_init 63 = .ok (.putfield 33, 3) := by decide +kernel
theorem dX3_init_66 : decode cX3_init 66 = .ok (.aload_n 0, 1) := by decide +kernel
theorem dX3_init_67 : decode cX3_init 67 = .ok (.bipush 20, 2) := by decide +kernel
theorem dX3_init_69 : decode cX3_init 69 = .ok (.putfield 36, 3) := by decide +kernel
theorem dX3_init_72 : decode cX3_init 72 = .ok (.return_, 1) := by decide +kernel
theorem dX3_refuse_0 : decode cX3_refuse 0 = .ok (.iload_n 1, 1) := by decide +kernel
theorem dX3_refuse_1 : decode cX3_refuse 1 = .ok (.ineg, 1) := by decide +kernel
theorem dX3_refuse_2 : decode cX3_refuse 2 = .ok (.istore_n 2, 1) := by decide +kernel
theorem dX3_refuse_3 : decode cX3_refuse 3 = .ok (.iload_n 2, 1) := by decide +kernel
theorem dX3_refuse_4 : decode cX3_refuse 4 = .ok (.ifCond .lt 22, 3) := by decide +kernel
theorem dX3_refuse_7 : decode cX3_refuse 7 = .ok (.iload_n 2, 1) := by decide +kernel
theorem dX3_refuse_8 : decode cX3_refuse 8 = .ok (.aload_n 0, 1) := by decide +kernel
theorem dX3_refuse_9 : decode cX3_refuse 9 = .ok (.getfield 25, 3) := by decide +kernel
theorem dX3_refuse_12 : decode cX3_refuse 12 = .ok (.arraylength, 1) := by decide +kernel
theorem dX3_refuse_13 : decode cX3_refuse 13 = .ok (.if_icmp .ge 13, 3) := by decide +kernel
theorem dX3_refuse_16 : decode cX3_refuse 16 = .ok (.aload_n 0, 1) := by decide +kernel
theorem dX3_refuse_17 : decode cX3_refuse 17 = .ok (.getfield 25, 3) := by decide +kernel
theorem dX3_refuse_20 : decode cX3_refuse 20 = .ok (.iload_n 2, 1) := by decide +kernel
theorem dX3_refuse_21 : decode cX3_refuse 21 = .ok (.dup2, 1) := by decide +kernel
theorem dX3_refuse_22 : decode cX3_refuse 22 = .ok (.iaload, 1) := by decide +kernel
theorem dX3_refuse_23 : decode cX3_refuse 23 = .ok (.iconst 1, 1) := by decide +kernel
theorem dX3_refuse_24 : decode cX3_refuse 24 = .ok (.iadd, 1) := by decide +kernel
theorem dX3_refuse_25 : decode cX3_refuse 25 = .ok (.iastore, 1) := by decide +kernel
theorem dX3_refuse_26 : decode cX3_refuse 26 = .ok (.iload_n 1, 1) := by decide +kernel
theorem dX3_refuse_27 : decode cX3_refuse 27 = .ok (.ireturn, 1) := by decide +kernel
theorem dX3_faultOf_0 : decode cX3_faultOf 0 = .ok (.iload_n 0, 1) := by decide +kernel
theorem dX3_faultOf_1 : decode cX3_faultOf 1 = .ok (.iload_n 1, 1) := by decide +kernel
theorem dX3_faultOf_2 : decode cX3_faultOf 2 = .ok (.if_icmp .ge 8, 3) := by decide +kernel
theorem dX3_faultOf_5 : decode cX3_faultOf 5 = .ok (.bipush (-4), 2) := by decide +kernel
theorem dX3_faultOf_7 : decode cX3_faultOf 7 = .ok (.goto 14, 3) := by decide +kernel
theorem dX3_faultOf_10 : decode cX3_faultOf 10 = .ok (.iload_n 0, 1) := by decide +kernel
theorem dX3_faultOf_11 : decode cX3_faultOf 11 = .ok (.iload_n 2, 1) := by decide +kernel
theorem dX3_faultOf_12 : decode cX3_faultOf 12 = .ok (.if_icmp .le 8, 3) := by decide +kernel
theorem dX3_faultOf_15 : decode cX3_faultOf 15 = .ok (.bipush (-6), 2) := by decide +kernel
theorem dX3_faultOf_17 : decode cX3_faultOf 17 = .ok (.goto 4, 3) := by decide +kernel
theorem dX3_faultOf_20 : decode cX3_faultOf 20 = .ok (.iconst 0, 1) := by decide +kernel
theorem dX3_faultOf_21 : decode cX3_faultOf 21 = .ok (.ireturn, 1) := by decide +kernel
set_option maxRecDepth 20000 in
theorem ggX3_serverAt_Jx4a65c_size_8abf5 : GoodIn wsX3_serverAt wsJx4a65c_size_8abf5 := goodIn_r _ [7, 8, 39, 40, 41] (by decide +kernel) (by decide +kernel)
set_option maxRecDepth 20000 in
theorem gX3_serverAt_Jx4a65c_size_8abf5 : GoodIn wsX3_serverAt (wsV RX3 43 RJx4a65c yJx4a65c_size_8abf5 wsJx4a65c_size_8abf5) := goodIn_app (goodIn_of _ (by decide +kernel)) ggX3_serverAt_Jx4a65c_size_8abf5
set_option maxRecDepth 20000 in
theorem ggX3_serverAt_Jx4a65c_get_915e3 : GoodIn wsX3_serverAt wsJx4a65c_get_915e3 := goodIn_r _ [12, 8, 13, 14, 15, 16, 17, 18, 19, 20, 21, 22, 23, 6, 24, 25, 39, 40, 41] (by decide +kernel) (by decide +kernel)
set_option maxRecDepth 20000 in
theorem gX3_serverAt_Jx4a65c_get_915e3 : GoodIn wsX3_serverAt (wsV RX3 151 RJx4a65c yJx4a65c_get_915e3 wsJx4a65c_get_915e3) := goodIn_app (goodIn_of _ (by decide +kernel)) ggX3_serverAt_Jx4a65c_get_915e3
theorem dX3_serverAt_0 : decode cX3_serverAt 0 = .ok (.iload_n 1, 1) := by decide +kernel
theorem dX3_serverAt_1 : decode cX3_serverAt 1 = .ok (.ifCond .lt 14, 3) := by decide +kernel
theorem dX3_serverAt_4 : decode cX3_serverAt 4 = .ok (.iload_n 1, 1) := by decide +kernel
theorem dX3_serverAt_5 : decode cX3_serverAt 5 = .ok (.aload_n 0, 1) := by decide +kernel
theorem dX3_serverAt_6 : decode cX3_serverAt 6 = .ok (.getfield 10, 3) := by decide +kernel
theorem dX3_serverAt_9 : decode cX3_serverAt 9 = .ok (.invokevirtual 43, 3) := by decide +kernel
theorem dX3_serverAt_12 : decode cX3_serverAt 12 = .ok (.if_icmp .lt 7, 3) := by decide +kernel
theorem dX3_serverAt_15 : decode cX3_serverAt 15 = .ok (.aconst_null, 1) := by decide +kernel
theorem dX3_serverAt_16 : decode cX3_serverAt 16 = .ok (.goto 14, 3) := by decide +kernel
theorem dX3_serverAt_19 : decode cX3_serverAt 19 = .ok (.aload_n 0, 1) := by decide +kernel
theorem dX3_serverAt_20 : decode cX3_serverAt 20 = .ok (.getfield 10, 3) := by decide +kernel
theorem dX3_serverAt_23 : decode cX3_serverAt 23 = .ok (.iload_n 1, 1) := by decide +kernel
theorem dX3_serverAt_24 : decode cX3_serverAt 24 = .ok (.invokevirtual 151, 3) := by decide +kernel
theorem dX3_serverAt_27 : decode cX3_serverAt 27 = .ok (.checkcast 47, 3) := by decide +kernel
theorem dX3_serverAt_30 : decode cX3_serverAt 30 = .ok (.areturn, 1) := by decide +kernel
set_option maxRecDepth 20000 in
theorem ggX3_callAt_Jx4a65c_size_8abf5 : GoodIn wsX3_callAt wsJx4a65c_size_8abf5 := goodIn_r _ [7, 8, 39, 40, 41] (by decide +kernel) (by decide +kernel)
set_option maxRecDepth 20000 in
theorem gX3_callAt_Jx4a65c_size_8abf5 : GoodIn wsX3_callAt (wsV RX3 43 RJx4a65c yJx4a65c_size_8abf5 wsJx4a65c_size_8abf5) := goodIn_app (goodIn_of _ (by decide +kernel)) ggX3_callAt_Jx4a65c_size_8abf5
set_option maxRecDepth 20000 in
theorem ggX3_callAt_Jx4a65c_get_915e3 : GoodIn wsX3_callAt wsJx4a65c_get_915e3 := goodIn_r _ [12, 8, 13, 14, 15, 16, 17, 18, 19, 20, 21, 22, 23, 6, 24, 25, 39, 40, 41] (by decide +kernel) (by decide +kernel)
set_option maxRecDepth 20000 in
theorem gX3_callAt_Jx4a65c_get_915e3 : GoodIn wsX3_callAt (wsV RX3 151 RJx4a65c yJx4a65c_get_915e3 wsJx4a65c_get_915e3) := goodIn_app (goodIn_of _ (by decide +kernel)) ggX3_callAt_Jx4a65c_get_915e3
theorem dX3_callAt_0 : decode cX3_callAt 0 = .ok (.iload_n 1, 1) := by decide +kernel
theorem dX3_callAt_1 : decode cX3_callAt 1 = .ok (.ifCond .lt 14, 3) := by decide +kernel
theorem dX3_callAt_4 : decode cX3_callAt 4 = .ok (.iload_n 1, 1) := by decide +kernel
theorem dX3_callAt_5 : decode cX3_callAt 5 = .ok (.aload_n 0, 1) := by decide +kernel
theorem dX3_callAt_6 : decode cX3_callAt 6 = .ok (.getfield 16, 3) := by decide +kernel
theorem dX3_callAt_9 : decode cX3_callAt 9 = .ok (.invokevirtual 43, 3) := by decide +kernel
theorem dX3_callAt_12 : decode cX3_callAt 12 = .ok (.if_icmp .lt 7, 3) := by decide +kernel
theorem dX3_callAt_15 : decode cX3_callAt 15 = .ok (.aconst_null, 1) := by decide +kernel
theorem dX3_callAt_16 : decode cX3_callAt 16 = .ok (.goto 14, 3) := by decide +kernel
theorem dX3_callAt_19 : decode cX3_callAt 19 = .ok (.aload_n 0, 1) := by decide +kernel
theorem dX3_callAt_20 : decode cX3_callAt 20 = .ok (.getfield 16, 3) := by decide +kernel
theorem dX3_callAt_23 : decode cX3_callAt 23 = .ok (.iload_n 1, 1) := by decide +kernel
theorem dX3_callAt_24 : decode cX3_callAt 24 = .ok (.invokevirtual 151, 3) := by decide +kernel
theorem dX3_callAt_27 : decode cX3_callAt 27 = .ok (.checkcast 93, 3) := by decide +kernel
theorem dX3_callAt_30 : decode cX3_callAt 30 = .ok (.areturn, 1) := by decide +kernel
set_option maxRecDepth 20000 in
theorem ggX3_set_X3_serverAt : GoodIn wsX3_set wsX3_serverAt := goodIn_r _ [6, 7, 8, 9, 10, 11, 12, 13, 14, 15, 16, 17, 18, 19, 20, 21, 22, 23, 24, 25, 26, 27, 28, 29, 30, 31, 89, 90, 91, 92, 93, 94, 95, 96, 97, 98, 99, 100, 101, 102, 103, 104] (by decide +kernel) (by decide +kernel)
set_option maxRecDepth 20000 in
theorem gX3_set_X3_serverAt : GoodIn wsX3_set (wsV RX3 59 RX3 yX3_serverAt wsX3_serverAt) := goodIn_app (goodIn_of _ (by decide +kernel)) ggX3_set_X3_serverAt
set_option maxRecDepth 20000 in
theorem ggX3_set_X3_refuse : GoodIn wsX3_set wsX3_refuse := goodIn_r _ [35, 36, 89, 90, 91, 92, 93, 94, 95, 96, 97, 98, 99, 100, 101] (by decide +kernel) (by decide +kernel)
set_option maxRecDepth 20000 in
theorem gX3_set_X3_refuse : GoodIn wsX3_set (wsV RX3 39 RX3 yX3_refuse wsX3_refuse) := goodIn_app (goodIn_of _ (by decide +kernel)) ggX3_set_X3_refuse
set_option maxRecDepth 20000 in
theorem ggX3_set_X3_leastOf : GoodIn wsX3_set wsX3_leastOf := goodIn_r _ [39] (by decide +kernel) (by decide +kernel)
set_option maxRecDepth 20000 in
theorem gX3_set_X3_leastOf : GoodIn wsX3_set (va_wsS RX3 66 yX3_leastOf wsX3_leastOf) := goodIn_app (goodIn_of _ (by decide +kernel)) ggX3_set_X3_leastOf
set_option maxRecDepth 20000 in
theorem ggX3_set_X3_greatestOf : GoodIn wsX3_set wsX3_greatestOf := goodIn_r _ [42] (by decide +kernel) (by decide +kernel)
set_option maxRecDepth 20000 in
theorem gX3_set_X3_greatestOf : GoodIn wsX3_set (va_wsS RX3 69 yX3_greatestOf wsX3_greatestOf) := goodIn_app (goodIn_of _ (by decide +kernel)) ggX3_set_X3_greatestOf
set_option maxRecDepth 20000 in
theorem ggX3_set_X3_faultOf : GoodIn wsX3_set wsX3_faultOf := goodIn_r _ [45] (by decide +kernel) (by decide +kernel)
set_option maxRecDepth 20000 in
theorem gX3_set_X3_faultOf : GoodIn wsX3_set (va_wsS RX3 72 yX3_faultOf wsX3_faultOf) := goodIn_app (goodIn_of _ (by decide +kernel)) ggX3_set_X3_faultOf
set_option maxRecDepth 20000 in
theorem ggX3_set_X2_change : GoodIn wsX3_set wsX2_change := goodIn_r _ [50, 51, 52, 53, 54, 55, 56, 57, 58, 49, 59, 60, 61, 62, 63, 64, 65, 66, 67, 68, 69, 70, 71, 72, 73, 74, 75, 76, 77, 78, 79, 80, 81, 82, 83, 84, 85, 86, 87, 88] (by decide +kernel) (by decide +kernel)
set_option maxRecDepth 20000 in
theorem gX3_set_X2_change : GoodIn wsX3_set (wsV RX3 76 RX2 yX2_change wsX2_change) := goodIn_app (goodIn_of _ (by decide +kernel)) ggX3_set_X2_change
theorem dX3_set_0 : decode cX3_set 0 = .ok (.aload_n 0, 1) := by decide +kernel
theorem dX3_set_1 : decode cX3_set 1 = .ok (.iload_n 1, 1) := by decide +kernel
theorem dX3_set_2 : decode cX3_set 2 = .ok (.invokevirtual 59, 3) := by decide +kernel
theorem dX3_set_5 : decode cX3_set 5 = .ok (.astore 4, 2) := by decide +kernel
theorem dX3_set_7 : decode cX3_set 7 = .ok (.aload 4, 2) := by decide +kernel
theorem dX3_set_9 : decode cX3_set 9 = .ok (.ifnonnull 9, 3) := by decide +kernel
theorem dX3_set_12 : decode cX3_set 12 = .ok (.aload_n 0, 1) := by decide +kernel
theorem dX3_set_13 : decode cX3_set 13 = .ok (.iconst (-1), 1) := by decide +kernel
theorem dX3_set_14 : decode cX3_set 14 = .ok (.invokevirtual 39, 3) := by decide +kernel
theorem dX3_set_17 : decode cX3_set 17 = .ok (.ireturn, 1) := by decide +kernel
theorem dX3_set_18 : decode cX3_set 18 = .ok (.iload_n 2, 1) := by decide +kernel
theorem dX3_set_19 : decode cX3_set 19 = .ok (.ifCond .lt 8, 3) := by decide +kernel
theorem dX3_set_22 : decode cX3_set 22 = .ok (.iload_n 2, 1) := by decide +kernel
theorem dX3_set_23 : decode cX3_set 23 = .ok (.iconst 4, 1) := by decide +kernel
theorem dX3_set_24 : decode cX3_set 24 = .ok (.if_icmp .le 10, 3) := by decide +kernel
theorem dX3_set_27 : decode cX3_set 27 = .ok (.aload_n 0, 1) := by decide +kernel
theorem dX3_set_28 : decode cX3_set 28 = .ok (.bipush (-2), 2) := by decide +kernel
theorem dX3_set_30 : decode cX3_set 30 = .ok (.invokevirtual 39, 3) := by decide +kernel
theorem dX3_set_33 : decode cX3_set 33 = .ok (.ireturn, 1) := by decide +kernel
theorem dX3_set_34 : decode cX3_set 34 = .ok (.aload 4, 2) := by decide +kernel
theorem dX3_set_36 : decode cX3_set 36 = .ok (.getfield 63, 3) := by decide +kernel
theorem dX3_set_39 : decode cX3_set 39 = .ok (.iconst 4, 1) := by decide +kernel
theorem dX3_set_40 : decode cX3_set 40 = .ok (.if_icmp .ne 10, 3) := by decide +kernel
theorem dX3_set_43 : decode cX3_set 43 = .ok (.aload_n 0, 1) := by decide +kernel
theorem dX3_set_44 : decode cX3_set 44 = .ok (.bipush (-3), 2) := by decide +kernel
theorem dX3_set_46 : decode cX3_set 46 = .ok (.invokevirtual 39, 3) := by decide +kernel
theorem dX3_set_49 : decode cX3_set 49 = .ok (.ireturn, 1) := by decide +kernel
theorem dX3_set_50 : decode cX3_set 50 = .ok (.iload_n 3, 1) := by decide +kernel
theorem dX3_set_51 : decode cX3_set 51 = .ok (.iload_n 2, 1) := by decide +kernel
theorem dX3_set_52 : decode cX3_set 52 = .ok (.invokestatic 66, 3) := by decide +kernel
theorem dX3_set_55 : decode cX3_set 55 = .ok (.iload_n 2, 1) := by decide +kernel
theorem dX3_set_56 : decode cX3_set 56 = .ok (.invokestatic 69, 3) := by decide +kernel
theorem dX3_set_59 : decode cX3_set 59 = .ok (.invokestatic 72, 3) := by decide +kernel
theorem dX3_set_62 : decode cX3_set 62 = .ok (.istore 5, 2) := by decide +kernel
theorem dX3_set_64 : decode cX3_set 64 = .ok (.iload 5, 2) := by decide +kernel
theorem dX3_set_66 : decode cX3_set 66 = .ok (.ifCond .eq 12, 3) := by decide +kernel
theorem dX3_set_69 : decode cX3_set 69 = .ok (.aload_n 0, 1) := by decide +kernel
theorem dX3_set_70 : decode cX3_set 70 = .ok (.iload 5, 2) := by decide +kernel
theorem dX3_set_72 : decode cX3_set 72 = .ok (.invokevirtual 39, 3) := by decide +kernel
theorem dX3_set_75 : decode cX3_set 75 = .ok (.goto 10, 3) := by decide +kernel
theorem dX3_set_78 : decode cX3_set 78 = .ok (.aload 4, 2) := by decide +kernel
theorem dX3_set_80 : decode cX3_set 80 = .ok (.iload_n 2, 1) := by decide +kernel
theorem dX3_set_81 : decode cX3_set 81 = .ok (.iload_n 3, 1) := by decide +kernel
theorem dX3_set_82 : decode cX3_set 82 = .ok (.invokevirtual 76, 3) := by decide +kernel
theorem dX3_set_85 : decode cX3_set 85 = .ok (.ireturn, 1) := by decide +kernel
set_option maxRecDepth 20000 in
theorem ggX3_drain_X3_serverAt : GoodIn wsX3_drain wsX3_serverAt := goodIn_r _ [7, 8, 9, 10, 11, 12, 13, 14, 15, 16, 17, 18, 19, 20, 21, 22, 23, 24, 25, 26, 27, 28, 29, 30, 31, 32, 55, 56, 57, 58, 59, 60, 61, 62, 63, 64, 65, 66, 67, 68, 69, 70] (by decide +kernel) (by decide +kernel)
set_option maxRecDepth 20000 in
theorem gX3_drain_X3_serverAt : GoodIn wsX3_drain (wsV RX3 59 RX3 yX3_serverAt wsX3_serverAt) := goodIn_app (goodIn_of _ (by decide +kernel)) ggX3_drain_X3_serverAt
set_option maxRecDepth 20000 in
theorem ggX3_drain_X3_refuse : GoodIn wsX3_drain wsX3_refuse := goodIn_r _ [36, 37, 55, 56, 57, 58, 59, 60, 61, 62, 63, 64, 65, 66, 67] (by decide +kernel) (by decide +kernel)
set_option maxRecDepth 20000 in
theorem gX3_drain_X3_refuse : GoodIn wsX3_drain (wsV RX3 39 RX3 yX3_refuse wsX3_refuse) := goodIn_app (goodIn_of _ (by decide +kernel)) ggX3_drain_X3_refuse
theorem dX3_drain_0 : decode cX3_drain 0 = .ok (.aload_n 0, 1) := by decide +kernel
theorem dX3_drain_1 : decode cX3_drain 1 = .ok (.iload_n 1, 1) := by decide +kernel
theorem dX3_drain_2 : decode cX3_drain 2 = .ok (.invokevirtual 59, 3) := by decide +kernel
theorem dX3_drain_5 : decode cX3_drain 5 = .ok (.astore_n 2, 1) := by decide +kernel
theorem dX3_drain_6 : decode cX3_drain 6 = .ok (.aload_n 2, 1) := by decide +kernel
theorem dX3_drain_7 : decode cX3_drain 7 = .ok (.ifnonnull 9, 3) := by decide +kernel
theorem dX3_drain_10 : decode cX3_drain 10 = .ok (.aload_n 0, 1) := by decide +kernel
theorem dX3_drain_11 : decode cX3_drain 11 = .ok (.iconst (-1), 1) := by decide +kernel
theorem dX3_drain_12 : decode cX3_drain 12 = .ok (.invokevirtual 39, 3) := by decide +kernel
theorem dX3_drain_15 : decode cX3_drain 15 = .ok (.ireturn, 1) := by decide +kernel
theorem dX3_drain_16 : decode cX3_drain 16 = .ok (.aload_n 2, 1) := by decide +kernel
theorem dX3_drain_17 : decode cX3_drain 17 = .ok (.getfield 63, 3) := by decide +kernel
theorem dX3_drain_20 : decode cX3_drain 20 = .ok (.iconst 3, 1) := by decide +kernel
theorem dX3_drain_21 : decode cX3_drain 21 = .ok (.if_icmp .eq 11, 3) := by decide +kernel
theorem dX3_drain_24 : decode cX3_drain 24 = .ok (.aload_n 2, 1) := by decide +kernel
theorem dX3_drain_25 : decode cX3_drain 25 = .ok (.getfield 63, 3) := by decide +kernel
theorem dX3_drain_28 : decode cX3_drain 28 = .ok (.iconst 4, 1) := by decide +kernel
theorem dX3_drain_29 : decode cX3_drain 29 = .ok (.if_icmp .ne 10, 3) := by decide +kernel
theorem dX3_drain_32 : decode cX3_drain 32 = .ok (.aload_n 0, 1) := by decide +kernel
theorem dX3_drain_33 : decode cX3_drain 33 = .ok (.bipush (-3), 2) := by decide +kernel
theorem dX3_drain_35 : decode cX3_drain 35 = .ok (.invokevirtual 39, 3) := by decide +kernel
theorem dX3_drain_38 : decode cX3_drain 38 = .ok (.ireturn, 1) := by decide +kernel
theorem dX3_drain_39 : decode cX3_drain 39 = .ok (.aload_n 2, 1) := by decide +kernel
theorem dX3_drain_40 : decode cX3_drain 40 = .ok (.aload_n 2, 1) := by decide +kernel
theorem dX3_drain_41 : decode cX3_drain 41 = .ok (.getfield 80, 3) := by decide +kernel
theorem dX3_drain_44 : decode cX3_drain 44 = .ok (.ifCond .ne 7, 3) := by decide +kernel
theorem dX3_drain_47 : decode cX3_drain 47 = .ok (.iconst 4, 1) := by decide +kernel
theorem dX3_drain_48 : decode cX3_drain 48 = .ok (.goto 4, 3) := by decide +kernel
theorem dX3_drain_51 : decode cX3_drain 51 = .ok (.iconst 3, 1) := by decide +kernel
theorem dX3_drain_52 : decode cX3_drain 52 = .ok (.putfield 63, 3) := by decide +kernel
theorem dX3_drain_55 : decode cX3_drain 55 = .ok (.aload_n 2, 1) := by decide +kernel
theorem dX3_drain_56 : decode cX3_drain 56 = .ok (.getfield 80, 3) := by decide +kernel
theorem dX3_drain_59 : decode cX3_drain 59 = .ok (.ireturn, 1) := by decide +kernel
set_option maxRecDepth 20000 in
theorem ggX3_back_X3_serverAt : GoodIn wsX3_back wsX3_serverAt := goodIn_r _ [8, 9, 10, 11, 12, 13, 14, 15, 16, 17, 18, 19, 20, 21, 22, 23, 24, 25, 26, 27, 28, 29, 30, 31, 32, 33, 56, 57, 58, 59, 60, 61, 62, 63, 64, 65, 66, 67, 68, 69, 70, 71] (by decide +kernel) (by decide +kernel)
set_option maxRecDepth 20000 in
theorem gX3_back_X3_serverAt : GoodIn wsX3_back (wsV RX3 59 RX3 yX3_serverAt wsX3_serverAt) := goodIn_app (goodIn_of _ (by decide +kernel)) ggX3_back_X3_serverAt
set_option maxRecDepth 20000 in
theorem ggX3_back_X3_refuse : GoodIn wsX3_back wsX3_refuse := goodIn_r _ [37, 38, 56, 57, 58, 59, 60, 61, 62, 63, 64, 65, 66, 67, 68] (by decide +kernel) (by decide +kernel)
set_option maxRecDepth 20000 in
theorem gX3_back_X3_refuse : GoodIn wsX3_back (wsV RX3 39 RX3 yX3_refuse wsX3_refuse) := goodIn_app (goodIn_of _ (by decide +kernel)) ggX3_back_X3_refuse
theorem dX3_back_0 : decode cX3_back 0 = .ok (.aload_n 0, 1) := by decide +kernel
theorem dX3_back_1 : decode cX3_back 1 = .ok (.iload_n 1, 1) := by decide +kernel
theorem dX3_back_2 : decode cX3_back 2 = .ok (.invokevirtual 59, 3) := by decide +kernel
theorem dX3_back_5 : decode cX3_back 5 = .ok (.astore_n 2, 1) := by decide +kernel
theorem dX3_back_6 : decode cX3_back 6 = .ok (.aload_n 2, 1) := by decide +kernel
theorem dX3_back_7 : decode cX3_back 7 = .ok (.ifnonnull 9, 3) := by decide +kernel
theorem dX3_back_10 : decode cX3_back 10 = .ok (.aload_n 0, 1) := by decide +kernel
theorem dX3_back_11 : decode cX3_back 11 = .ok (.iconst (-1), 1) := by decide +kernel
theorem dX3_back_12 : decode cX3_back 12 = .ok (.invokevirtual 39, 3) := by decide +kernel
theorem dX3_back_15 : decode cX3_back 15 = .ok (.ireturn, 1) := by decide +kernel
theorem dX3_back_16 : decode cX3_back 16 = .ok (.aload_n 2, 1) := by decide +kernel
theorem dX3_back_17 : decode cX3_back 17 = .ok (.getfield 63, 3) := by decide +kernel
theorem dX3_back_20 : decode cX3_back 20 = .ok (.iconst 3, 1) := by decide +kernel
theorem dX3_back_21 : decode cX3_back 21 = .ok (.if_icmp .eq 18, 3) := by decide +kernel
theorem dX3_back_24 : decode cX3_back 24 = .ok (.aload_n 2, 1) := by decide +kernel
theorem dX3_back_25 : decode cX3_back 25 = .ok (.getfield 63, 3) := by decide +kernel
theorem dX3_back_28 : decode cX3_back 28 = .ok (.iconst 4, 1) := by decide +kernel
theorem dX3_back_29 : decode cX3_back 29 = .ok (.if_icmp .eq 10, 3) := by decide +kernel
theorem dX3_back_32 : decode cX3_back 32 = .ok (.aload_n 0, 1) := by decide +kernel
theorem dX3_back_33 : decode cX3_back 33 = .ok (.bipush (-3), 2) := by decide +kernel
theorem dX3_back_35 : decode cX3_back 35 = .ok (.invokevirtual 39, 3) := by decide +kernel
theorem dX3_back_38 : decode cX3_back 38 = .ok (.ireturn, 1) := by decide +kernel
theorem dX3_back_39 : decode cX3_back 39 = .ok (.aload_n 2, 1) := by decide +kernel
theorem dX3_back_40 : decode cX3_back 40 = .ok (.iconst 2, 1) := by decide +kernel
theorem dX3_back_41 : decode cX3_back 41 = .ok (.putfield 63, 3) := by decide +kernel
theorem dX3_back_44 : decode cX3_back 44 = .ok (.aload_n 2, 1) := by decide +kernel
theorem dX3_back_45 : decode cX3_back 45 = .ok (.iconst 0, 1) := by decide +kernel
theorem dX3_back_46 : decode cX3_back 46 = .ok (.putfield 83, 3) := by decide +kernel
theorem dX3_back_49 : decode cX3_back 49 = .ok (.aload_n 2, 1) := by decide +kernel
theorem dX3_back_50 : decode cX3_back 50 = .ok (.bipush 10, 2) := by decide +kernel
theorem dX3_back_52 : decode cX3_back 52 = .ok (.putfield 86, 3) := by decide +kernel
theorem dX3_back_55 : decode cX3_back 55 = .ok (.iconst 1, 1) := by decide +kernel
theorem dX3_back_56 : decode cX3_back 56 = .ok (.ireturn, 1) := by decide +kernel
set_option maxRecDepth 20000 in
theorem ggX3_off_X3_callAt : GoodIn wsX3_off wsX3_callAt := goodIn_r _ [6, 7, 8, 9, 10, 11, 12, 13, 14, 15, 16, 17, 18, 19, 20, 21, 22, 23, 24, 25, 26, 27, 28, 29, 30, 31, 99, 100, 101, 102, 103, 104, 105, 106, 107, 108, 109, 110, 111, 112, 113, 114] (by decide +kernel) (by decide +kernel)
set_option maxRecDepth 20000 in
theorem gX3_off_X3_callAt : GoodIn wsX3_off (wsV RX3 110 RX3 yX3_callAt wsX3_callAt) := goodIn_app (goodIn_of _ (by decide +kernel)) ggX3_off_X3_callAt
set_option maxRecDepth 20000 in
theorem ggX3_off_X3_refuse : GoodIn wsX3_off wsX3_refuse := goodIn_r _ [35, 36, 99, 100, 101, 102, 103, 104, 105, 106, 107, 108, 109, 110, 111] (by decide +kernel) (by decide +kernel)
set_option maxRecDepth 20000 in
theorem gX3_off_X3_refuse : GoodIn wsX3_off (wsV RX3 39 RX3 yX3_refuse wsX3_refuse) := goodIn_app (goodIn_of _ (by decide +kernel)) ggX3_off_X3_refuse
set_option maxRecDepth 20000 in
theorem ggX3_off_X1_hasEnded : GoodIn wsX3_off wsX1_hasEnded := goodIn_r _ [41, 42, 87, 88, 89, 90, 91, 92, 93, 94, 95, 96, 97, 98] (by decide +kernel) (by decide +kernel)
set_option maxRecDepth 20000 in
theorem gX3_off_X1_hasEnded : GoodIn wsX3_off (wsV RX3 114 RX1 yX1_hasEnded wsX1_hasEnded) := goodIn_app (goodIn_of _ (by decide +kernel)) ggX3_off_X1_hasEnded
set_option maxRecDepth 20000 in
theorem ggX3_off_X3_leaveLine : GoodIn wsX3_off wsX3_leaveLine := goodIn_r _ [46, 47, 8, 48, 9, 10, 11, 12, 13, 14, 15, 16, 17, 18, 19, 20, 21, 22, 23, 24, 25, 26, 27, 28, 29, 30, 31, 49, 50, 51, 52, 53, 54, 55, 56, 57, 58, 59, 60, 61, 62, 99, 100, 101, 102, 103, 104, 105, 106, 107, 108, 109, 110, 111, 87, 88, 89, 90, 91, 92, 93, 94, 95, 96, 97, 98, 112, 113, 114] (by decide +kernel) (by decide +kernel)
set_option maxRecDepth 20000 in
theorem gX3_off_X3_leaveLine : GoodIn wsX3_off (wsV RX3 121 RX3 yX3_leaveLine wsX3_leaveLine) := goodIn_app (goodIn_of _ (by decide +kernel)) ggX3_off_X3_leaveLine
set_option maxRecDepth 20000 in
theorem ggX3_off_X1_callOffAll : GoodIn wsX3_off wsX1_callOffAll := goodIn_r _ [66, 67, 68, 69, 70, 71, 40, 72, 73, 74, 87, 88, 89, 90, 91, 92, 93, 94, 95, 96, 97, 98, 115, 116, 117, 118, 119, 120, 121, 122, 123, 124, 125, 126, 127, 128, 129, 130, 131, 132, 133, 134, 135] (by decide +kernel) (by decide +kernel)
set_option maxRecDepth 20000 in
theorem gX3_off_X1_callOffAll : GoodIn wsX3_off (wsV RX3 124 RX1 yX1_callOffAll wsX1_callOffAll) := goodIn_app (goodIn_of _ (by decide +kernel)) ggX3_off_X1_callOffAll
set_option maxRecDepth 20000 in
theorem ggX3_off_X3_end : GoodIn wsX3_off wsX3_end := goodIn_r _ [78, 1, 79, 80, 81, 87, 88, 89, 90, 91, 92, 93, 94, 95, 96, 97, 98, 99, 100, 101, 102, 103, 104, 105, 106, 107, 108, 109, 110, 111] (by decide +kernel) (by decide +kernel)
set_option maxRecDepth 20000 in
theorem gX3_off_X3_end : GoodIn wsX3_off (wsV RX3 127 RX3 yX3_end wsX3_end) := goodIn_app (goodIn_of _ (by decide +kernel)) ggX3_off_X3_end
set_option maxRecDepth 20000 in
theorem ggX3_off_X3_dropEnded : GoodIn wsX3_off wsX3_dropEnded := goodIn_r _ [85, 86, 8, 9, 10, 11, 12, 13, 14, 15, 16, 17, 18, 19, 20, 21, 22, 23, 24, 25, 26, 27, 28, 29, 30, 31, 37, 38, 39, 40, 41, 42, 49, 50, 51, 52, 53, 54, 55, 56, 57, 58, 59, 60, 61, 62, 99, 100, 101, 102, 103, 104, 105, 106, 107, 108, 109, 110, 111, 112, 113, 114, 87, 88, 89, 90, 91, 92, 93, 94, 95, 96, 97, 98] (by decide +kernel) (by decide +kernel)
set_option maxRecDepth 20000 in
theorem gX3_off_X3_dropEnded : GoodIn wsX3_off (wsV RX3 131 RX3 yX3_dropEnded wsX3_dropEnded) := goodIn_app (goodIn_of _ (by decide +kernel)) ggX3_off_X3_dropEnded
theorem dX3_off_0 : decode cX3_off 0 = .ok (.aload_n 0, 1) := by decide +kernel
theorem dX3_off_1 : decode cX3_off 1 = .ok (.iload_n 1, 1) := by decide +kernel
theorem dX3_off_2 : decode cX3_off 2 = .ok (.invokevirtual 110, 3) := by decide +kernel
theorem dX3_off_5 : decode cX3_off 5 = .ok (.astore_n 2, 1) := by decide +kernel
theorem dX3_off_6 : decode cX3_off 6 = .ok (.aload_n 2, 1) := by decide +kernel
theorem dX3_off_7 : decode cX3_off 7 = .ok (.ifnonnull 9, 3) := by decide +kernel
theorem dX3_off_10 : decode cX3_off 10 = .ok (.aload_n 0, 1) := by decide +kernel
theorem dX3_off_11 : decode cX3_off 11 = .ok (.iconst (-1), 1) := by decide +kernel
theorem dX3_off_12 : decode cX3_off 12 = .ok (.invokevirtual 39, 3) := by decide +kernel
theorem dX3_off_15 : decode cX3_off 15 = .ok (.ireturn, 1) := by decide +kernel
theorem dX3_off_16 : decode cX3_off 16 = .ok (.aload_n 2, 1) := by decide +kernel
theorem dX3_off_17 : decode cX3_off 17 = .ok (.invokevirtual 114, 3) := by decide +kernel
theorem dX3_off_20 : decode cX3_off 20 = .ok (.ifCond .eq 10, 3) := by decide +kernel
theorem dX3_off_23 : decode cX3_off 23 = .ok (.aload_n 0, 1) := by decide +kernel
theorem dX3_off_24 : decode cX3_off 24 = .ok (.bipush (-3), 2) := by decide +kernel
theorem dX3_off_26 : decode cX3_off 26 = .ok (.invokevirtual 39, 3) := by decide +kernel
theorem dX3_off_29 : decode cX3_off 29 = .ok (.ireturn, 1) := by decide +kernel
theorem dX3_off_30 : decode cX3_off 30 = .ok (.aload_n 2, 1) := by decide +kernel
theorem dX3_off_31 : decode cX3_off 31 = .ok (.getfield 118, 3) := by decide +kernel
theorem dX3_off_34 : decode cX3_off 34 = .ok (.ifCond .ne 8, 3) := by decide +kernel
theorem dX3_off_37 : decode cX3_off 37 = .ok (.aload_n 0, 1) := by decide +kernel
theorem dX3_off_38 : decode cX3_off 38 = .ok (.aload_n 2, 1) := by decide +kernel
theorem dX3_off_39 : decode cX3_off 39 = .ok (.invokevirtual 121, 3) := by decide +kernel
theorem dX3_off_42 : decode cX3_off 42 = .ok (.aload_n 2, 1) := by decide +kernel
theorem dX3_off_43 : decode cX3_off 43 = .ok (.invokevirtual 124, 3) := by decide +kernel
theorem dX3_off_46 : decode cX3_off 46 = .ok (.aload_n 0, 1) := by decide +kernel
theorem dX3_off_47 : decode cX3_off 47 = .ok (.aload_n 2, 1) := by decide +kernel
theorem dX3_off_48 : decode cX3_off 48 = .ok (.iconst 4, 1) := by decide +kernel
theorem dX3_off_49 : decode cX3_off 49 = .ok (.invokevirtual 127, 3) := by decide +kernel
theorem dX3_off_52 : decode cX3_off 52 = .ok (.aload_n 0, 1) := by decide +kernel
theorem dX3_off_53 : decode cX3_off 53 = .ok (.invokevirtual 131, 3) := by decide +kernel
theorem dX3_off_56 : decode cX3_off 56 = .ok (.iconst 1, 1) := by decide +kernel
theorem dX3_off_57 : decode cX3_off 57 = .ok (.ireturn, 1) := by decide +kernel
set_option maxRecDepth 20000 in
theorem ggX3_callOf_X3_callAt : GoodIn wsX3_callOf wsX3_callAt := goodIn_r _ [5, 6, 7, 8, 9, 10, 11, 12, 13, 14, 15, 16, 17, 18, 19, 20, 21, 22, 23, 24, 25, 26, 27, 28, 29, 30, 54, 55, 56, 57, 58, 59, 60, 61, 62, 63, 64, 65, 66, 67, 68, 69] (by decide +kernel) (by decide +kernel)
set_option maxRecDepth 20000 in
theorem gX3_callOf_X3_callAt : GoodIn wsX3_callOf (wsV RX3 110 RX3 yX3_callAt wsX3_callAt) := goodIn_app (goodIn_of _ (by decide +kernel)) ggX3_callOf_X3_callAt
set_option maxRecDepth 20000 in
theorem ggX3_callOf_X3_refuse : GoodIn wsX3_callOf wsX3_refuse := goodIn_r _ [34, 35, 54, 55, 56, 57, 58, 59, 60, 61, 62, 63, 64, 65, 66] (by decide +kernel) (by decide +kernel)
set_option maxRecDepth 20000 in
theorem gX3_callOf_X3_refuse : GoodIn wsX3_callOf (wsV RX3 39 RX3 yX3_refuse wsX3_refuse) := goodIn_app (goodIn_of _ (by decide +kernel)) ggX3_callOf_X3_refuse
set_option maxRecDepth 20000 in
theorem ggX3_callOf_X1_tell : GoodIn wsX3_callOf wsX1_tell := goodIn_r _ [40, 41, 42, 43, 44, 45, 46, 47, 48, 49, 50, 51, 52, 53, 70, 71, 72, 73, 74, 75, 76, 77, 78, 79, 80, 81, 82, 83, 84, 85, 86, 87, 88, 89, 90, 91, 92, 93, 94, 95, 96, 97, 98, 99, 100, 101, 102] (by decide +kernel) (by decide +kernel)
set_option maxRecDepth 20000 in
theorem gX3_callOf_X1_tell : GoodIn wsX3_callOf (wsV RX3 144 RX1 yX1_tell wsX1_tell) := goodIn_app (goodIn_of _ (by decide +kernel)) ggX3_callOf_X1_tell
theorem dX3_callOf_0 : decode cX3_callOf 0 = .ok (.aload_n 0, 1) := by decide +kernel
theorem dX3_callOf_1 : decode cX3_callOf 1 = .ok (.iload_n 1, 1) := by decide +kernel
theorem dX3_callOf_2 : decode cX3_callOf 2 = .ok (.invokevirtual 110, 3) := by decide +kernel
theorem dX3_callOf_5 : decode cX3_callOf 5 = .ok (.astore_n 3, 1) := by decide +kernel
theorem dX3_callOf_6 : decode cX3_callOf 6 = .ok (.aload_n 3, 1) := by decide +kernel
theorem dX3_callOf_7 : decode cX3_callOf 7 = .ok (.ifnonnull 9, 3) := by decide +kernel
theorem dX3_callOf_10 : decode cX3_callOf 10 = .ok (.aload_n 0, 1) := by decide +kernel
theorem dX3_callOf_11 : decode cX3_callOf 11 = .ok (.iconst (-1), 1) := by decide +kernel
theorem dX3_callOf_12 : decode cX3_callOf 12 = .ok (.invokevirtual 39, 3) := by decide +kernel
theorem dX3_callOf_15 : decode cX3_callOf 15 = .ok (.ireturn, 1) := by decide +kernel
theorem dX3_callOf_16 : decode cX3_callOf 16 = .ok (.iload_n 2, 1) := by decide +kernel
theorem dX3_callOf_17 : decode cX3_callOf 17 = .ok (.ifCond .lt 9, 3) := by decide +kernel
theorem dX3_callOf_20 : decode cX3_callOf 20 = .ok (.iload_n 2, 1) := by decide +kernel
theorem dX3_callOf_21 : decode cX3_callOf 21 = .ok (.bipush 10, 2) := by decide +kernel
theorem dX3_callOf_23 : decode cX3_callOf 23 = .ok (.if_icmp .le 12, 3) := by decide +kernel
theorem dX3_callOf_26 : decode cX3_callOf 26 = .ok (.aload_n 0, 1) := by decide +kernel
theorem dX3_callOf_27 : decode cX3_callOf 27 = .ok (.bipush (-2), 2) := by decide +kernel
theorem dX3_callOf_29 : decode cX3_callOf 29 = .ok (.invokevirtual 39, 3) := by decide +kernel
theorem dX3_callOf_32 : decode cX3_callOf 32 = .ok (.goto 8, 3) := by decide +kernel
theorem dX3_callOf_35 : decode cX3_callOf 35 = .ok (.aload_n 3, 1) := by decide +kernel
theorem dX3_callOf_36 : decode cX3_callOf 36 = .ok (.iload_n 2, 1) := by decide +kernel
theorem dX3_callOf_37 : decode cX3_callOf 37 = .ok (.invokevirtual 144, 3) := by decide +kernel
theorem dX3_callOf_40 : decode cX3_callOf 40 = .ok (.ireturn, 1) := by decide +kernel
set_option maxRecDepth 20000 in
theorem ggX3_serverOf_X3_serverAt : GoodIn wsX3_serverOf wsX3_serverAt := goodIn_r _ [5, 6, 7, 8, 9, 10, 11, 12, 13, 14, 15, 16, 17, 18, 19, 20, 21, 22, 23, 24, 25, 26, 27, 28, 29, 30, 58, 59, 60, 61, 62, 63, 64, 65, 66, 67, 68, 69, 70, 71, 72, 73] (by decide +kernel) (by decide +kernel)
set_option maxRecDepth 20000 in
theorem gX3_serverOf_X3_serverAt : GoodIn wsX3_serverOf (wsV RX3 59 RX3 yX3_serverAt wsX3_serverAt) := goodIn_app (goodIn_of _ (by decide +kernel)) ggX3_serverOf_X3_serverAt
set_option maxRecDepth 20000 in
theorem ggX3_serverOf_X3_refuse : GoodIn wsX3_serverOf wsX3_refuse := goodIn_r _ [34, 35, 58, 59, 60, 61, 62, 63, 64, 65, 66, 67, 68, 69, 70] (by decide +kernel) (by decide +kernel)
set_option maxRecDepth 20000 in
theorem gX3_serverOf_X3_refuse : GoodIn wsX3_serverOf (wsV RX3 39 RX3 yX3_refuse wsX3_refuse) := goodIn_app (goodIn_of _ (by decide +kernel)) ggX3_serverOf_X3_refuse
set_option maxRecDepth 20000 in
theorem ggX3_serverOf_X2_tell : GoodIn wsX3_serverOf wsX2_tell := goodIn_r _ [40, 41, 42, 43, 44, 45, 46, 47, 48, 49, 50, 51, 52, 53, 54, 55, 56, 57, 74, 75, 76, 77, 78, 79, 80, 81, 82, 83, 84, 85, 86, 87, 88, 89, 90] (by decide +kernel) (by decide +kernel)
set_option maxRecDepth 20000 in
theorem gX3_serverOf_X2_tell : GoodIn wsX3_serverOf (wsV RX3 147 RX2 yX2_tell wsX2_tell) := goodIn_app (goodIn_of _ (by decide +kernel)) ggX3_serverOf_X2_tell
theorem dX3_serverOf_0 : decode cX3_serverOf 0 = .ok (.aload_n 0, 1) := by decide +kernel
theorem dX3_serverOf_1 : decode cX3_serverOf 1 = .ok (.iload_n 1, 1) := by decide +kernel
theorem dX3_serverOf_2 : decode cX3_serverOf 2 = .ok (.invokevirtual 59, 3) := by decide +kernel
theorem dX3_serverOf_5 : decode cX3_serverOf 5 = .ok (.astore_n 3, 1) := by decide +kernel
theorem dX3_serverOf_6 : decode cX3_serverOf 6 = .ok (.aload_n 3, 1) := by decide +kernel
theorem dX3_serverOf_7 : decode cX3_serverOf 7 = .ok (.ifnonnull 9, 3) := by decide +kernel
theorem dX3_serverOf_10 : decode cX3_serverOf 10 = .ok (.aload_n 0, 1) := by decide +kernel
theorem dX3_serverOf_11 : decode cX3_serverOf 11 = .ok (.iconst (-1), 1) := by decide +kernel
theorem dX3_serverOf_12 : decode cX3_serverOf 12 = .ok (.invokevirtual 39, 3) := by decide +kernel
theorem dX3_serverOf_15 : decode cX3_serverOf 15 = .ok (.ireturn, 1) := by decide +kernel
theorem dX3_serverOf_16 : decode cX3_serverOf 16 = .ok (.iload_n 2, 1) := by decide +kernel
theorem dX3_serverOf_17 : decode cX3_serverOf 17 = .ok (.ifCond .lt 9, 3) := by decide +kernel
theorem dX3_serverOf_20 : decode cX3_serverOf 20 = .ok (.iload_n 2, 1) := by decide +kernel
theorem dX3_serverOf_21 : decode cX3_serverOf 21 = .ok (.bipush 15, 2) := by decide +kernel
theorem dX3_serverOf_23 : decode cX3_serverOf 23 = .ok (.if_icmp .le 12, 3) := by decide +kernel
theorem dX3_serverOf_26 : decode cX3_serverOf 26 = .ok (.aload_n 0, 1) := by decide +kernel
theorem dX3_serverOf_27 : decode cX3_serverOf 27 = .ok (.bipush (-2), 2) := by decide +kernel
theorem dX3_serverOf_29 : decode cX3_serverOf 29 = .ok (.invokevirtual 39, 3) := by decide +kernel
theorem dX3_serverOf_32 : decode cX3_serverOf 32 = .ok (.goto 8, 3) := by decide +kernel
theorem dX3_serverOf_35 : decode cX3_serverOf 35 = .ok (.aload_n 3, 1) := by decide +kernel
theorem dX3_serverOf_36 : decode cX3_serverOf 36 = .ok (.iload_n 2, 1) := by decide +kernel
theorem dX3_serverOf_37 : decode cX3_serverOf 37 = .ok (.invokevirtual 147, 3) := by decide +kernel
theorem dX3_serverOf_40 : decode cX3_serverOf 40 = .ok (.ireturn, 1) := by decide +kernel
set_option maxRecDepth 20000 in
theorem ggX3_mark_X3_serverAt : GoodIn wsX3_mark wsX3_serverAt := goodIn_r _ [5, 6, 7, 8, 9, 10, 11, 12, 13, 14, 15, 16, 17, 18, 19, 20, 21, 22, 23, 24, 25, 26, 27, 28, 29, 30, 44, 45, 46, 47, 48, 49, 50, 51, 52, 53, 54, 55, 56, 57, 58, 59] (by decide +kernel) (by decide +kernel)
set_option maxRecDepth 20000 in
theorem gX3_mark_X3_serverAt : GoodIn wsX3_mark (wsV RX3 59 RX3 yX3_serverAt wsX3_serverAt) := goodIn_app (goodIn_of _ (by decide +kernel)) ggX3_mark_X3_serverAt
set_option maxRecDepth 20000 in
theorem ggX3_mark_X3_refuse : GoodIn wsX3_mark wsX3_refuse := goodIn_r _ [34, 35, 44, 45, 46, 47, 48, 49, 50, 51, 52, 53, 54, 55, 56] (by decide +kernel) (by decide +kernel)
set_option maxRecDepth 20000 in
theorem gX3_mark_X3_refuse : GoodIn wsX3_mark (wsV RX3 39 RX3 yX3_refuse wsX3_refuse) := goodIn_app (goodIn_of _ (by decide +kernel)) ggX3_mark_X3_refuse
set_option maxRecDepth 20000 in
theorem ggX3_mark_X2_placeOfMark : GoodIn wsX3_mark wsX2_placeOfMark := goodIn_r _ [40, 41, 42, 43, 60, 61, 62, 63, 64, 65, 66, 67, 68, 69, 70, 71, 72, 73, 74, 75, 76] (by decide +kernel) (by decide +kernel)
set_option maxRecDepth 20000 in
theorem gX3_mark_X2_placeOfMark : GoodIn wsX3_mark (wsV RX3 148 RX2 yX2_placeOfMark wsX2_placeOfMark) := goodIn_app (goodIn_of _ (by decide +kernel)) ggX3_mark_X2_placeOfMark
theorem dX3_mark_0 : decode cX3_mark 0 = .ok (.aload_n 0, 1) := by decide +kernel
theorem dX3_mark_1 : decode cX3_mark 1 = .ok (.iload_n 1, 1) := by decide +kernel
theorem dX3_mark_2 : decode cX3_mark 2 = .ok (.invokevirtual 59, 3) := by decide +kernel
theorem dX3_mark_5 : decode cX3_mark 5 = .ok (.astore_n 3, 1) := by decide +kernel
theorem dX3_mark_6 : decode cX3_mark 6 = .ok (.aload_n 3, 1) := by decide +kernel
theorem dX3_mark_7 : decode cX3_mark 7 = .ok (.ifnonnull 9, 3) := by decide +kernel
theorem dX3_mark_10 : decode cX3_mark 10 = .ok (.aload_n 0, 1) := by decide +kernel
theorem dX3_mark_11 : decode cX3_mark 11 = .ok (.iconst (-1), 1) := by decide +kernel
theorem dX3_mark_12 : decode cX3_mark 12 = .ok (.invokevirtual 39, 3) := by decide +kernel
theorem dX3_mark_15 : decode cX3_mark 15 = .ok (.ireturn, 1) := by decide +kernel
theorem dX3_mark_16 : decode cX3_mark 16 = .ok (.iload_n 2, 1) := by decide +kernel
theorem dX3_mark_17 : decode cX3_mark 17 = .ok (.ifCond .lt 8, 3) := by decide +kernel
theorem dX3_mark_20 : decode cX3_mark 20 = .ok (.iload_n 2, 1) := by decide +kernel
theorem dX3_mark_21 : decode cX3_mark 21 = .ok (.iconst 4, 1) := by decide +kernel
theorem dX3_mark_22 : decode cX3_mark 22 = .ok (.if_icmp .lt 12, 3) := by decide +kernel
theorem dX3_mark_25 : decode cX3_mark 25 = .ok (.aload_n 0, 1) := by decide +kernel
theorem dX3_mark_26 : decode cX3_mark 26 = .ok (.bipush (-2), 2) := by decide +kernel
theorem dX3_mark_28 : decode cX3_mark 28 = .ok (.invokevirtual 39, 3) := by decide +kernel
theorem dX3_mark_31 : decode cX3_mark 31 = .ok (.goto 8, 3) := by decide +kernel
theorem dX3_mark_34 : decode cX3_mark 34 = .ok (.aload_n 3, 1) := by decide +kernel
theorem dX3_mark_35 : decode cX3_mark 35 = .ok (.iload_n 2, 1) := by decide +kernel
theorem dX3_mark_36 : decode cX3_mark 36 = .ok (.invokevirtual 148, 3) := by decide +kernel
theorem dX3_mark_39 : decode cX3_mark 39 = .ok (.ireturn, 1) := by decide +kernel
set_option maxRecDepth 20000 in
theorem ggX3_share_X3_serverAt : GoodIn wsX3_share wsX3_serverAt := goodIn_r _ [6, 7, 8, 9, 10, 11, 12, 13, 14, 15, 16, 17, 18, 19, 20, 21, 22, 23, 24, 25, 26, 27, 28, 29, 30, 31, 58, 59, 60, 61, 62, 63, 64, 65, 66, 67, 68, 69, 70, 71, 72, 73] (by decide +kernel) (by decide +kernel)
set_option maxRecDepth 20000 in
theorem gX3_share_X3_serverAt : GoodIn wsX3_share (wsV RX3 59 RX3 yX3_serverAt wsX3_serverAt) := goodIn_app (goodIn_of _ (by decide +kernel)) ggX3_share_X3_serverAt
set_option maxRecDepth 20000 in
theorem ggX3_share_X3_refuse : GoodIn wsX3_share wsX3_refuse := goodIn_r _ [35, 36, 58, 59, 60, 61, 62, 63, 64, 65, 66, 67, 68, 69, 70] (by decide +kernel) (by decide +kernel)
set_option maxRecDepth 20000 in
theorem gX3_share_X3_refuse : GoodIn wsX3_share (wsV RX3 39 RX3 yX3_refuse wsX3_refuse) := goodIn_app (goodIn_of _ (by decide +kernel)) ggX3_share_X3_refuse
set_option maxRecDepth 20000 in
theorem ggX3_share_X3_askingsSoFar : GoodIn wsX3_share wsX3_askingsSoFar := goodIn_r _ [40, 7, 8, 1, 9, 10, 11, 12, 13, 14, 15, 16, 17, 18, 19, 20, 21, 22, 23, 24, 25, 26, 27, 28, 29, 30, 31, 58, 59, 60, 61, 62, 63, 64, 65, 66, 67, 68, 69, 70, 41, 42, 43, 44, 45, 46, 47, 48, 49, 50, 51, 52, 53, 54, 55, 56, 57, 71, 72, 73] (by decide +kernel) (by decide +kernel)
set_option maxRecDepth 20000 in
theorem gX3_share_X3_askingsSoFar : GoodIn wsX3_share (wsV RX3 155 RX3 yX3_askingsSoFar wsX3_askingsSoFar) := goodIn_app (goodIn_of _ (by decide +kernel)) ggX3_share_X3_askingsSoFar
theorem dX3_share_0 : decode cX3_share 0 = .ok (.aload_n 0, 1) := by decide +kernel
theorem dX3_share_1 : decode cX3_share 1 = .ok (.iload_n 1, 1) := by decide +kernel
theorem dX3_share_2 : decode cX3_share 2 = .ok (.invokevirtual 59, 3) := by decide +kernel
theorem dX3_share_5 : decode cX3_share 5 = .ok (.astore_n 2, 1) := by decide +kernel
theorem dX3_share_6 : decode cX3_share 6 = .ok (.aload_n 2, 1) := by decide +kernel
theorem dX3_share_7 : decode cX3_share 7 = .ok (.ifnonnull 9, 3) := by decide +kernel
theorem dX3_share_10 : decode cX3_share 10 = .ok (.aload_n 0, 1) := by decide +kernel
theorem dX3_share_11 : decode cX3_share 11 = .ok (.iconst (-1), 1) := by decide +kernel
theorem dX3_share_12 : decode cX3_share 12 = .ok (.invokevirtual 39, 3) := by decide +kernel
theorem dX3_share_15 : decode cX3_share 15 = .ok (.ireturn, 1) := by decide +kernel
theorem dX3_share_16 : decode cX3_share 16 = .ok (.aload_n 0, 1) := by decide +kernel
theorem dX3_share_17 : decode cX3_share 17 = .ok (.invokevirtual 155, 3) := by decide +kernel
theorem dX3_share_20 : decode cX3_share 20 = .ok (.istore_n 3, 1) := by decide +kernel
theorem dX3_share_21 : decode cX3_share 21 = .ok (.iload_n 3, 1) := by decide +kernel
theorem dX3_share_22 : decode cX3_share 22 = .ok (.ifCond .ne 7, 3) := by decide +kernel
theorem dX3_share_25 : decode cX3_share 25 = .ok (.iconst 0, 1) := by decide +kernel
theorem dX3_share_26 : decode cX3_share 26 = .ok (.goto 13, 3) := by decide +kernel
theorem dX3_share_29 : decode cX3_share 29 = .ok (.aload_n 2, 1) := by decide +kernel
theorem dX3_share_30 : decode cX3_share 30 = .ok (.getfield 158, 3) := by decide +kernel
theorem dX3_share_33 : decode cX3_share 33 = .ok (.sipush 1000, 3) := by decide +kernel
theorem dX3_share_36 : decode cX3_share 36 = .ok (.imul, 1) := by decide +kernel
theorem dX3_share_37 : decode cX3_share 37 = .ok (.iload_n 3, 1) := by decide +kernel
theorem dX3_share_38 : decode cX3_share 38 = .ok (.idiv, 1) := by decide +kernel
theorem dX3_share_39 : decode cX3_share 39 = .ok (.ireturn, 1) := by decide +kernel
set_option maxRecDepth 20000 in
theorem ggX3_rule_X3_refuse : GoodIn wsX3_rule wsX3_refuse := goodIn_r _ [6, 7, 8, 9, 10, 11, 12, 13, 14, 15, 16, 17, 18, 19, 20] (by decide +kernel) (by decide +kernel)
set_option maxRecDepth 20000 in
theorem gX3_rule_X3_refuse : GoodIn wsX3_rule (wsV RX3 39 RX3 yX3_refuse wsX3_refuse) := goodIn_app (goodIn_of _ (by decide +kernel)) ggX3_rule_X3_refuse
theorem dX3_rule_0 : decode cX3_rule 0 = .ok (.iload_n 1, 1) := by decide +kernel
theorem dX3_rule_1 : decode cX3_rule 1 = .ok (.ifCond .lt 8, 3) := by decide +kernel
theorem dX3_rule_4 : decode cX3_rule 4 = .ok (.iload_n 1, 1) := by decide +kernel
theorem dX3_rule_5 : decode cX3_rule 5 = .ok (.iconst 3, 1) := by decide +kernel
theorem dX3_rule_6 : decode cX3_rule 6 = .ok (.if_icmp .le 9, 3) := by decide +kernel
theorem dX3_rule_9 : decode cX3_rule 9 = .ok (.aload_n 0, 1) := by decide +kernel
theorem dX3_rule_10 : decode cX3_rule 10 = .ok (.iconst (-1), 1) := by decide +kernel
theorem dX3_rule_11 : decode cX3_rule 11 = .ok (.invokevirtual 39, 3) := by decide +kernel
theorem dX3_rule_14 : decode cX3_rule 14 = .ok (.ireturn, 1) := by decide +kernel
theorem dX3_rule_15 : decode cX3_rule 15 = .ok (.aload_n 0, 1) := by decide +kernel
theorem dX3_rule_16 : decode cX3_rule 16 = .ok (.getfield 29, 3) := by decide +kernel
theorem dX3_rule_19 : decode cX3_rule 19 = .ok (.istore_n 2, 1) := by decide +kernel
theorem dX3_rule_20 : decode cX3_rule 20 = .ok (.aload_n 0, 1) := by decide +kernel
theorem dX3_rule_21 : decode cX3_rule 21 = .ok (.iload_n 1, 1) := by decide +kernel
theorem dX3_rule_22 : decode cX3_rule 22 = .ok (.putfield 29, 3) := by decide +kernel
theorem dX3_rule_25 : decode cX3_rule 25 = .ok (.iload_n 2, 1) := by decide +kernel
theorem dX3_rule_26 : decode cX3_rule 26 = .ok (.ireturn, 1) := by decide +kernel
set_option maxRecDepth 20000 in
theorem ggX3_limit_X3_faultOf : GoodIn wsX3_limit wsX3_faultOf := goodIn_r _ [5] (by decide +kernel) (by decide +kernel)
set_option maxRecDepth 20000 in
theorem gX3_limit_X3_faultOf : GoodIn wsX3_limit (va_wsS RX3 72 yX3_faultOf wsX3_faultOf) := goodIn_app (goodIn_of _ (by decide +kernel)) ggX3_limit_X3_faultOf
set_option maxRecDepth 20000 in
theorem ggX3_limit_X3_refuse : GoodIn wsX3_limit wsX3_refuse := goodIn_r _ [9, 10, 11, 12, 13, 14, 15, 16, 17, 18, 19, 20, 21, 22, 23] (by decide +kernel) (by decide +kernel)
set_option maxRecDepth 20000 in
theorem gX3_limit_X3_refuse : GoodIn wsX3_limit (wsV RX3 39 RX3 yX3_refuse wsX3_refuse) := goodIn_app (goodIn_of _ (by decide +kernel)) ggX3_limit_X3_refuse
theorem dX3_limit_0 : decode cX3_limit 0 = .ok (.iload_n 1, 1) := by decide +kernel
theorem dX3_limit_1 : decode cX3_limit 1 = .ok (.iconst 1, 1) := by decide +kernel
theorem dX3_limit_2 : decode cX3_limit 2 = .ok (.bipush 10, 2) := by decide +kernel
theorem dX3_limit_4 : decode cX3_limit 4 = .ok (.invokestatic 72, 3) := by decide +kernel
theorem dX3_limit_7 : decode cX3_limit 7 = .ok (.istore_n 2, 1) := by decide +kernel
theorem dX3_limit_8 : decode cX3_limit 8 = .ok (.iload_n 2, 1) := by decide +kernel
theorem dX3_limit_9 : decode cX3_limit 9 = .ok (.ifCond .eq 9, 3) := by decide +kernel
theorem dX3_limit_12 : decode cX3_limit 12 = .ok (.aload_n 0, 1) := by decide +kernel
theorem dX3_limit_13 : decode cX3_limit 13 = .ok (.iload_n 2, 1) := by decide +kernel
theorem dX3_limit_14 : decode cX3_limit 14 = .ok (.invokevirtual 39, 3) := by decide +kernel
theorem dX3_limit_17 : decode cX3_limit 17 = .ok (.ireturn, 1) := by decide +kernel
theorem dX3_limit_18 : decode cX3_limit 18 = .ok (.aload_n 0, 1) := by decide +kernel
theorem dX3_limit_19 : decode cX3_limit 19 = .ok (.getfield 33, 3) := by decide +kernel
theorem dX3_limit_22 : decode cX3_limit 22 = .ok (.istore_n 3, 1) := by decide +kernel
theorem dX3_limit_23 : decode cX3_limit 23 = .ok (.aload_n 0, 1) := by decide +kernel
theorem dX3_limit_24 : decode cX3_limit 24 = .ok (.iload_n 1, 1) := by decide +kernel
theorem dX3_limit_25 : decode cX3_limit 25 = .ok (.putfield 33, 3) := by decide +kernel
theorem dX3_limit_28 : decode cX3_limit 28 = .ok (.iload_n 3, 1) := by decide +kernel
theorem dX3_limit_29 : decode cX3_limit 29 = .ok (.ireturn, 1) := by decide +kernel
set_option maxRecDepth 20000 in
theorem ggX3_budget_X3_faultOf : GoodIn wsX3_budget wsX3_faultOf := goodIn_r _ [5] (by decide +kernel) (by decide +kernel)
set_option maxRecDepth 20000 in
theorem gX3_budget_X3_faultOf : GoodIn wsX3_budget (va_wsS RX3 72 yX3_faultOf wsX3_faultOf) := goodIn_app (goodIn_of _ (by decide +kernel)) ggX3_budget_X3_faultOf
set_option maxRecDepth 20000 in
theorem ggX3_budget_X3_refuse : GoodIn wsX3_budget wsX3_refuse := goodIn_r _ [9, 10, 11, 12, 13, 14, 15, 16, 17, 18, 19, 20, 21, 22, 23] (by decide +kernel) (by decide +kernel)
set_option maxRecDepth 20000 in
theorem gX3_budget_X3_refuse : GoodIn wsX3_budget (wsV RX3 39 RX3 yX3_refuse wsX3_refuse) := goodIn_app (goodIn_of _ (by decide +kernel)) ggX3_budget_X3_refuse
theorem dX3_budget_0 : decode cX3_budget 0 = .ok (.iload_n 1, 1) := by decide +kernel
theorem dX3_budget_1 : decode cX3_budget 1 = .ok (.iconst 0, 1) := by decide +kernel
theorem dX3_budget_2 : decode cX3_budget 2 = .ok (.bipush 100, 2) := by decide +kernel
theorem dX3_budget_4 : decode cX3_budget 4 = .ok (.invokestatic 72, 3) := by decide +kernel
theorem dX3_budget_7 : decode cX3_budget 7 = .ok (.istore_n 2, 1) := by decide +kernel
theorem dX3_budget_8 : decode cX3_budget 8 = .ok (.iload_n 2, 1) := by decide +kernel
theorem dX3_budget_9 : decode cX3_budget 9 = .ok (.ifCond .eq 9, 3) := by decide +kernel
theorem dX3_budget_12 : decode cX3_budget 12 = .ok (.aload_n 0, 1) := by decide +kernel
theorem dX3_budget_13 : decode cX3_budget 13 = .ok (.iload_n 2, 1) := by decide +kernel
theorem dX3_budget_14 : decode cX3_budget 14 = .ok (.invokevirtual 39, 3) := by decide +kernel
theorem dX3_budget_17 : decode cX3_budget 17 = .ok (.ireturn, 1) := by decide +kernel
theorem dX3_budget_18 : decode cX3_budget 18 = .ok (.aload_n 0, 1) := by decide +kernel
theorem dX3_budget_19 : decode cX3_budget 19 = .ok (.getfield 36, 3) := by decide +kernel
theorem dX3_budget_22 : decode cX3_budget 22 = .ok (.istore_n 3, 1) := by decide +kernel
theorem dX3_budget_23 : decode cX3_budget 23 = .ok (.aload_n 0, 1) := by decide +kernel
theorem dX3_budget_24 : decode cX3_budget 24 = .ok (.iload_n 1, 1) := by decide +kernel
theorem dX3_budget_25 : decode cX3_budget 25 = .ok (.putfield 36, 3) := by decide +kernel
theorem dX3_budget_28 : decode cX3_budget 28 = .ok (.iload_n 3, 1) := by decide +kernel
theorem dX3_budget_29 : decode cX3_budget 29 = .ok (.ireturn, 1) := by decide +kernel
set_option maxRecDepth 20000 in
theorem ggX3_hedge_X3_faultOf : GoodIn wsX3_hedge wsX3_faultOf := goodIn_r _ [5] (by decide +kernel) (by decide +kernel)
set_option maxRecDepth 20000 in
theorem gX3_hedge_X3_faultOf : GoodIn wsX3_hedge (va_wsS RX3 72 yX3_faultOf wsX3_faultOf) := goodIn_app (goodIn_of _ (by decide +kernel)) ggX3_hedge_X3_faultOf
set_option maxRecDepth 20000 in
theorem ggX3_hedge_X3_refuse : GoodIn wsX3_hedge wsX3_refuse := goodIn_r _ [9, 10, 11, 12, 13, 14, 15, 16, 17, 18, 19, 20, 21, 22, 23] (by decide +kernel) (by decide +kernel)
set_option maxRecDepth 20000 in
theorem gX3_hedge_X3_refuse : GoodIn wsX3_hedge (wsV RX3 39 RX3 yX3_refuse wsX3_refuse) := goodIn_app (goodIn_of _ (by decide +kernel)) ggX3_hedge_X3_refuse
theorem dX3_hedge_0 : decode cX3_hedge 0 = .ok (.iload_n 1, 1) := by decide +kernel
theorem dX3_hedge_1 : decode cX3_hedge 1 = .ok (.iconst 0, 1) := by decide +kernel
theorem dX3_hedge_2 : decode cX3_hedge 2 = .ok (.sipush 500, 3) := by decide +kernel
theorem dX3_hedge_5 : decode cX3_hedge 5 = .ok (.invokestatic 72, 3) := by decide +kernel
theorem dX3_hedge_8 : decode cX3_hedge 8 = .ok (.istore_n 2, 1) := by decide +kernel
theorem dX3_hedge_9 : decode cX3_hedge 9 = .ok (.iload_n 2, 1) := by decide +kernel
theorem dX3_hedge_10 : decode cX3_hedge 10 = .ok (.ifCond .eq 9, 3) := by decide +kernel
theorem dX3_hedge_13 : decode cX3_hedge 13 = .ok (.aload_n 0, 1) := by decide +kernel
theorem dX3_hedge_14 : decode cX3_hedge 14 = .ok (.iload_n 2, 1) := by decide +kernel
theorem dX3_hedge_15 : decode cX3_hedge 15 = .ok (.invokevirtual 39, 3) := by decide +kernel
theorem dX3_hedge_18 : decode cX3_hedge 18 = .ok (.ireturn, 1) := by decide +kernel
theorem dX3_hedge_19 : decode cX3_hedge 19 = .ok (.aload_n 0, 1) := by decide +kernel
theorem dX3_hedge_20 : decode cX3_hedge 20 = .ok (.getfield 89, 3) := by decide +kernel
theorem dX3_hedge_23 : decode cX3_hedge 23 = .ok (.istore_n 3, 1) := by decide +kernel
theorem dX3_hedge_24 : decode cX3_hedge 24 = .ok (.aload_n 0, 1) := by decide +kernel
theorem dX3_hedge_25 : decode cX3_hedge 25 = .ok (.iload_n 1, 1) := by decide +kernel
theorem dX3_hedge_26 : decode cX3_hedge 26 = .ok (.putfield 89, 3) := by decide +kernel
theorem dX3_hedge_29 : decode cX3_hedge 29 = .ok (.iload_n 3, 1) := by decide +kernel
theorem dX3_hedge_30 : decode cX3_hedge 30 = .ok (.ireturn, 1) := by decide +kernel
set_option maxRecDepth 20000 in
theorem ggX3_byTurn_Jx4a65c_size_8abf5 : GoodIn wsX3_byTurn wsJx4a65c_size_8abf5 := goodIn_r _ [9, 10, 67, 68, 69] (by decide +kernel) (by decide +kernel)
set_option maxRecDepth 20000 in
theorem gX3_byTurn_Jx4a65c_size_8abf5 : GoodIn wsX3_byTurn (wsV RX3 43 RJx4a65c yJx4a65c_size_8abf5 wsJx4a65c_size_8abf5) := goodIn_app (goodIn_of _ (by decide +kernel)) ggX3_byTurn_Jx4a65c_size_8abf5
set_option maxRecDepth 20000 in
theorem ggX3_byTurn_Jx4a65c_get_915e3 : GoodIn wsX3_byTurn wsJx4a65c_get_915e3 := goodIn_r _ [14, 10, 15, 16, 17, 18, 19, 20, 21, 22, 23, 24, 25, 8, 26, 27, 67, 68, 69] (by decide +kernel) (by decide +kernel)
set_option maxRecDepth 20000 in
theorem gX3_byTurn_Jx4a65c_get_915e3 : GoodIn wsX3_byTurn (wsV RX3 151 RJx4a65c yJx4a65c_get_915e3 wsJx4a65c_get_915e3) := goodIn_app (goodIn_of _ (by decide +kernel)) ggX3_byTurn_Jx4a65c_get_915e3
set_option maxRecDepth 20000 in
theorem ggX3_byTurn_X2_mayBeAsked : GoodIn wsX3_byTurn wsX2_mayBeAsked := goodIn_r _ [32, 33, 34, 35, 36, 50, 51, 52, 53, 54, 55, 56, 57, 58, 59, 60, 61, 62, 63, 64, 65, 66] (by decide +kernel) (by decide +kernel)
set_option maxRecDepth 20000 in
theorem gX3_byTurn_X2_mayBeAsked : GoodIn wsX3_byTurn (wsV RX3 182 RX2 yX2_mayBeAsked wsX2_mayBeAsked) := goodIn_app (goodIn_of _ (by decide +kernel)) ggX3_byTurn_X2_mayBeAsked
theorem dX3_byTurn_0 : decode cX3_byTurn 0 = .ok (.aconst_null, 1) := by decide +kernel
theorem dX3_byTurn_1 : decode cX3_byTurn 1 = .ok (.astore_n 2, 1) := by decide +kernel
theorem dX3_byTurn_2 : decode cX3_byTurn 2 = .ok (.iconst 0, 1) := by decide +kernel
theorem dX3_byTurn_3 : decode cX3_byTurn 3 = .ok (.istore_n 3, 1) := by decide +kernel
theorem dX3_byTurn_4 : decode cX3_byTurn 4 = .ok (.iload_n 3, 1) := by decide +kernel
theorem dX3_byTurn_5 : decode cX3_byTurn 5 = .ok (.aload_n 0, 1) := by decide +kernel
theorem dX3_byTurn_6 : decode cX3_byTurn 6 = .ok (.getfield 10, 3) := by decide +kernel
theorem dX3_byTurn_9 : decode cX3_byTurn 9 = .ok (.invokevirtual 43, 3) := by decide +kernel
theorem dX3_byTurn_12 : decode cX3_byTurn 12 = .ok (.if_icmp .ge 61, 3) := by decide +kernel
theorem dX3_byTurn_15 : decode cX3_byTurn 15 = .ok (.aload_n 0, 1) := by decide +kernel
theorem dX3_byTurn_16 : decode cX3_byTurn 16 = .ok (.getfield 10, 3) := by decide +kernel
theorem dX3_byTurn_19 : decode cX3_byTurn 19 = .ok (.iload_n 3, 1) := by decide +kernel
theorem dX3_byTurn_20 : decode cX3_byTurn 20 = .ok (.invokevirtual 151, 3) := by decide +kernel
theorem dX3_byTurn_23 : decode cX3_byTurn 23 = .ok (.checkcast 47, 3) := by decide +kernel
theorem dX3_byTurn_26 : decode cX3_byTurn 26 = .ok (.astore 4, 2) := by decide +kernel
theorem dX3_byTurn_28 : decode cX3_byTurn 28 = .ok (.aload 4, 2) := by decide +kernel
theorem dX3_byTurn_30 : decode cX3_byTurn 30 = .ok (.iload_n 1, 1) := by decide +kernel
theorem dX3_byTurn_31 : decode cX3_byTurn 31 = .ok (.invokevirtual 182, 3) := by decide +kernel
theorem dX3_byTurn_34 : decode cX3_byTurn 34 = .ok (.ifCond .eq 33, 3) := by decide +kernel
theorem dX3_byTurn_37 : decode cX3_byTurn 37 = .ok (.aload_n 2, 1) := by decide +kernel
theorem dX3_byTurn_38 : decode cX3_byTurn 38 = .ok (.ifnull 26, 3) := by decide +kernel
theorem dX3_byTurn_41 : decode cX3_byTurn 41 = .ok (.aload 4, 2) := by decide +kernel
theorem dX3_byTurn_43 : decode cX3_byTurn 43 = .ok (.getfield 186, 3) := by decide +kernel
theorem dX3_byTurn_46 : decode cX3_byTurn 46 = .ok (.aload 4, 2) := by decide +kernel
theorem dX3_byTurn_48 : decode cX3_byTurn 48 = .ok (.getfield 189, 3) := by decide +kernel
theorem dX3_byTurn_51 : decode cX3_byTurn 51 = .ok (.iadd, 1) := by decide +kernel
theorem dX3_byTurn_52 : decode cX3_byTurn 52 = .ok (.aload_n 2, 1) := by decide +kernel
theorem dX3_byTurn_53 : decode cX3_byTurn 53 = .ok (.getfield 186, 3) := by decide +kernel
theorem dX3_byTurn_56 : decode cX3_byTurn 56 = .ok (.aload_n 2, 1) := by decide +kernel
theorem dX3_byTurn_57 : decode cX3_byTurn 57 = .ok (.getfield 189, 3) := by decide +kernel
theorem dX3_byTurn_60 : decode cX3_byTurn 60 = .ok (.iadd, 1) := by decide +kernel
theorem dX3_byTurn_61 : decode cX3_byTurn 61 = .ok (.if_icmp .le 6, 3) := by decide +kernel
theorem dX3_byTurn_64 : decode cX3_byTurn 64 = .ok (.aload 4, 2) := by decide +kernel
theorem dX3_byTurn_66 : decode cX3_byTurn 66 = .ok (.astore_n 2, 1) := by decide +kernel
theorem dX3_byTurn_67 : decode cX3_byTurn 67 = .ok (.iinc 3 1, 3) := by decide +kernel
theorem dX3_byTurn_70 : decode cX3_byTurn 70 = .ok (.goto (-66), 3) := by decide +kernel
theorem dX3_byTurn_73 : decode cX3_byTurn 73 = .ok (.aload_n 2, 1) := by decide +kernel
theorem dX3_byTurn_74 : decode cX3_byTurn 74 = .ok (.areturn, 1) := by decide +kernel
set_option maxRecDepth 20000 in
theorem ggX3_chosen_X3_byTurn : GoodIn wsX3_chosen wsX3_byTurn := goodIn_r _ [6, 7, 8, 9, 10, 11, 12, 13, 14, 15, 16, 17, 18, 19, 20, 21, 22, 23, 24, 25, 26, 27, 28, 29, 30, 31, 32, 33, 34, 35, 36, 37, 38, 39, 40, 41, 42, 68, 69, 70, 71, 72, 73, 74, 75, 76, 77, 78, 79, 80, 81, 82, 83, 84, 85, 86, 87, 88, 89, 90, 91, 92, 93, 94, 95, 96, 97, 98, 99, 100] (by decide +kernel) (by decide +kernel)
set_option maxRecDepth 20000 in
theorem gX3_chosen_X3_byTurn : GoodIn wsX3_chosen (wsV RX3 173 RX3 yX3_byTurn wsX3_byTurn) := goodIn_app (goodIn_of _ (by decide +kernel)) ggX3_chosen_X3_byTurn
set_option maxRecDepth 20000 in
theorem ggX3_chosen_X3_byRing : GoodIn wsX3_chosen wsX3_byRing := goodIn_r _ [46, 47, 7, 8, 11, 12, 13, 14, 15, 16, 17, 18, 19, 20, 21, 22, 23, 24, 25, 26, 27, 28, 29, 30, 31, 32, 33, 34, 35, 36, 37, 38, 39, 40, 41, 42, 48, 49, 50, 51, 52, 53, 54, 55, 56, 57, 58, 59, 60, 61, 68, 69, 70, 71, 72, 73, 74, 75, 76, 77, 78, 79, 80, 98, 99, 100, 81, 82, 83, 84, 85, 86, 87, 88, 89, 90, 91, 92, 93, 94, 95, 96, 97] (by decide +kernel) (by decide +kernel)
set_option maxRecDepth 20000 in
theorem gX3_chosen_X3_byRing : GoodIn wsX3_chosen (wsV RX3 176 RX3 yX3_byRing wsX3_byRing) := goodIn_app (goodIn_of _ (by decide +kernel)) ggX3_chosen_X3_byRing
set_option maxRecDepth 20000 in
theorem ggX3_chosen_X3_byFewest : GoodIn wsX3_chosen wsX3_byFewest := goodIn_r _ [65, 7, 8, 66, 67, 10, 11, 12, 13, 14, 15, 16, 17, 18, 19, 20, 21, 22, 23, 24, 25, 26, 27, 28, 29, 30, 31, 32, 33, 34, 35, 36, 37, 38, 39, 40, 41, 42, 68, 69, 70, 71, 72, 73, 74, 75, 76, 77, 78, 79, 80, 81, 82, 83, 84, 85, 86, 87, 88, 89, 90, 91, 92, 93, 94, 95, 96, 97, 98, 99, 100] (by decide +kernel) (by decide +kernel)
set_option maxRecDepth 20000 in
theorem gX3_chosen_X3_byFewest : GoodIn wsX3_chosen (wsV RX3 179 RX3 yX3_byFewest wsX3_byFewest) := goodIn_app (goodIn_of _ (by decide +kernel)) ggX3_chosen_X3_byFewest
theorem dX3_chosen_0 : decode cX3_chosen 0 = .ok (.aload_n 0, 1) := by decide +kernel
theorem dX3_chosen_1 : decode cX3_chosen 1 = .ok (.getfield 29, 3) := by decide +kernel
theorem dX3_chosen_4 : decode cX3_chosen 4 = .ok (.ifCond .ne 9, 3) := by decide +kernel
theorem dX3_chosen_7 : decode cX3_chosen 7 = .ok (.aload_n 0, 1) := by decide +kernel
theorem dX3_chosen_8 : decode cX3_chosen 8 = .ok (.iload_n 2, 1) := by decide +kernel
theorem dX3_chosen_9 : decode cX3_chosen 9 = .ok (.invokevirtual 173, 3) := by decide +kernel
theorem dX3_chosen_12 : decode cX3_chosen 12 = .ok (.areturn, 1) := by decide +kernel
theorem dX3_chosen_13 : decode cX3_chosen 13 = .ok (.aload_n 0, 1) := by decide +kernel
theorem dX3_chosen_14 : decode cX3_chosen 14 = .ok (.getfield 29, 3) := by decide +kernel
theorem dX3_chosen_17 : decode cX3_chosen 17 = .ok (.iconst 2, 1) := by decide +kernel
theorem dX3_chosen_18 : decode cX3_chosen 18 = .ok (.if_icmp .ne 10, 3) := by decide +kernel
theorem dX3_chosen_21 : decode cX3_chosen 21 = .ok (.aload_n 0, 1) := by decide +kernel
theorem dX3_chosen_22 : decode cX3_chosen 22 = .ok (.iload_n 1, 1) := by decide +kernel
theorem dX3_chosen_23 : decode cX3_chosen 23 = .ok (.iload_n 2, 1) := by decide +kernel
theorem dX3_chosen_24 : decode cX3_chosen 24 = .ok (.invokevirtual 176, 3) := by decide +kernel
theorem dX3_chosen_27 : decode cX3_chosen 27 = .ok (.areturn, 1) := by decide +kernel
theorem dX3_chosen_28 : decode cX3_chosen 28 = .ok (.aload_n 0, 1) := by decide +kernel
theorem dX3_chosen_29 : decode cX3_chosen 29 = .ok (.getfield 29, 3) := by decide +kernel
theorem dX3_chosen_32 : decode cX3_chosen 32 = .ok (.iconst 3, 1) := by decide +kernel
theorem dX3_chosen_33 : decode cX3_chosen 33 = .ok (.if_icmp .ne 14, 3) := by decide +kernel
theorem dX3_chosen_36 : decode cX3_chosen 36 = .ok (.aload_n 0, 1) := by decide +kernel
theorem dX3_chosen_37 : decode cX3_chosen 37 = .ok (.iload_n 2, 1) := by decide +kernel
theorem dX3_chosen_38 : decode cX3_chosen 38 = .ok (.iload_n 1, 1) := by decide +kernel
theorem dX3_chosen_39 : decode cX3_chosen 39 = .ok (.iconst 4, 1) := by decide +kernel
theorem dX3_chosen_40 : decode cX3_chosen 40 = .ok (.irem, 1) := by decide +kernel
theorem dX3_chosen_41 : decode cX3_chosen 41 = .ok (.invokevirtual 179, 3) := by decide +kernel
theorem dX3_chosen_44 : decode cX3_chosen 44 = .ok (.goto 4, 3) := by decide +kernel
theorem dX3_chosen_47 : decode cX3_chosen 47 = .ok (.aconst_null, 1) := by decide +kernel
theorem dX3_chosen_48 : decode cX3_chosen 48 = .ok (.astore_n 3, 1) := by decide +kernel
theorem dX3_chosen_49 : decode cX3_chosen 49 = .ok (.aload_n 3, 1) := by decide +kernel
theorem dX3_chosen_50 : decode cX3_chosen 50 = .ok (.ifnull 7, 3) := by decide +kernel
theorem dX3_chosen_53 : decode cX3_chosen 53 = .ok (.aload_n 3, 1) := by decide +kernel
theorem dX3_chosen_54 : decode cX3_chosen 54 = .ok (.goto 9, 3) := by decide +kernel
theorem dX3_chosen_57 : decode cX3_chosen 57 = .ok (.aload_n 0, 1) := by decide +kernel
theorem dX3_chosen_58 : decode cX3_chosen 58 = .ok (.iload_n 2, 1) := by decide +kernel
theorem dX3_chosen_59 : decode cX3_chosen 59 = .ok (.iconst (-1), 1) := by decide +kernel
theorem dX3_chosen_60 : decode cX3_chosen 60 = .ok (.invokevirtual 179, 3) := by decide +kernel
theorem dX3_chosen_63 : decode cX3_chosen 63 = .ok (.areturn, 1) := by decide +kernel
set_option maxRecDepth 20000 in
theorem ggX3_pick_X3_faultOf : GoodIn wsX3_pick wsX3_faultOf := goodIn_r _ [6] (by decide +kernel) (by decide +kernel)
set_option maxRecDepth 20000 in
theorem gX3_pick_X3_faultOf : GoodIn wsX3_pick (va_wsS RX3 72 yX3_faultOf wsX3_faultOf) := goodIn_app (goodIn_of _ (by decide +kernel)) ggX3_pick_X3_faultOf
set_option maxRecDepth 20000 in
theorem ggX3_pick_X3_refuse : GoodIn wsX3_pick wsX3_refuse := goodIn_r _ [10, 11, 99, 100, 101, 102, 103, 104, 105, 106, 107, 108, 109, 110, 111] (by decide +kernel) (by decide +kernel)
set_option maxRecDepth 20000 in
theorem gX3_pick_X3_refuse : GoodIn wsX3_pick (wsV RX3 39 RX3 yX3_refuse wsX3_refuse) := goodIn_app (goodIn_of _ (by decide +kernel)) ggX3_pick_X3_refuse
set_option maxRecDepth 20000 in
theorem ggX3_pick_X3_chosen : GoodIn wsX3_pick wsX3_chosen := goodIn_r _ [15, 16, 17, 18, 19, 5, 20, 21, 22, 23, 24, 25, 26, 27, 28, 29, 30, 31, 32, 33, 34, 35, 36, 37, 38, 39, 40, 41, 42, 43, 44, 45, 46, 47, 48, 49, 50, 51, 52, 53, 54, 55, 56, 57, 58, 59, 60, 61, 62, 63, 64, 65, 66, 67, 68, 69, 70, 71, 72, 73, 74, 75, 76, 77, 78, 79, 80, 81, 99, 100, 101, 102, 103, 104, 105, 106, 107, 108, 109, 110, 111, 82, 83, 84, 85, 86, 87, 88, 89, 90, 91, 92, 93, 94, 95, 96, 97, 98, 112, 113, 114] (by decide +kernel) (by decide +kernel)
set_option maxRecDepth 20000 in
theorem gX3_pick_X3_chosen : GoodIn wsX3_pick (wsV RX3 140 RX3 yX3_chosen wsX3_chosen) := goodIn_app (goodIn_of _ (by decide +kernel)) ggX3_pick_X3_chosen
theorem dX3_pick_0 : decode cX3_pick 0 = .ok (.iload_n 1, 1) := by decide +kernel
theorem dX3_pick_1 : decode cX3_pick 1 = .ok (.iconst 0, 1) := by decide +kernel
theorem dX3_pick_2 : decode cX3_pick 2 = .ok (.ldc 92, 2) := by decide +kernel
theorem dX3_pick_4 : decode cX3_pick 4 = .ok (.invokestatic 72, 3) := by decide +kernel
theorem dX3_pick_7 : decode cX3_pick 7 = .ok (.istore_n 2, 1) := by decide +kernel
theorem dX3_pick_8 : decode cX3_pick 8 = .ok (.iload_n 2, 1) := by decide +kernel
theorem dX3_pick_9 : decode cX3_pick 9 = .ok (.ifCond .eq 9, 3) := by decide +kernel
theorem dX3_pick_12 : decode cX3_pick 12 = .ok (.aload_n 0, 1) := by decide +kernel
theorem dX3_pick_13 : decode cX3_pick 13 = .ok (.iload_n 2, 1) := by decide +kernel
theorem dX3_pick_14 : decode cX3_pick 14 = .ok (.invokevirtual 39, 3) := by decide +kernel
theorem dX3_pick_17 : decode cX3_pick 17 = .ok (.ireturn, 1) := by decide +kernel
theorem dX3_pick_18 : decode cX3_pick 18 = .ok (.aload_n 0, 1) := by decide +kernel
theorem dX3_pick_19 : decode cX3_pick 19 = .ok (.iload_n 1, 1) := by decide +kernel
theorem dX3_pick_20 : decode cX3_pick 20 = .ok (.iconst 0, 1) := by decide +kernel
theorem dX3_pick_21 : decode cX3_pick 21 = .ok (.invokevirtual 140, 3) := by decide +kernel
theorem dX3_pick_24 : decode cX3_pick 24 = .ok (.astore_n 3, 1) := by decide +kernel
theorem dX3_pick_25 : decode cX3_pick 25 = .ok (.aload_n 3, 1) := by decide +kernel
theorem dX3_pick_26 : decode cX3_pick 26 = .ok (.ifnonnull 8, 3) := by decide +kernel
theorem dX3_pick_29 : decode cX3_pick 29 = .ok (.bipush (-9), 2) := by decide +kernel
theorem dX3_pick_31 : decode cX3_pick 31 = .ok (.goto 7, 3) := by decide +kernel
theorem dX3_pick_34 : decode cX3_pick 34 = .ok (.aload_n 3, 1) := by decide +kernel
theorem dX3_pick_35 : decode cX3_pick 35 = .ok (.getfield 56, 3) := by decide +kernel
theorem dX3_pick_38 : decode cX3_pick 38 = .ok (.ireturn, 1) := by decide +kernel
set_option maxRecDepth 20000 in
theorem ggX3_queue_Jx4a65c_size_8abf5 : GoodIn wsX3_queue wsJx4a65c_size_8abf5 := goodIn_r _ [8, 9, 52, 53, 54] (by decide +kernel) (by decide +kernel)
set_option maxRecDepth 20000 in
theorem gX3_queue_Jx4a65c_size_8abf5 : GoodIn wsX3_queue (wsV RX3 43 RJx4a65c yJx4a65c_size_8abf5 wsJx4a65c_size_8abf5) := goodIn_app (goodIn_of _ (by decide +kernel)) ggX3_queue_Jx4a65c_size_8abf5
set_option maxRecDepth 20000 in
theorem ggX3_queue_Jx4a65c_get_915e3 : GoodIn wsX3_queue wsJx4a65c_get_915e3 := goodIn_r _ [13, 9, 14, 15, 16, 17, 18, 19, 20, 21, 22, 23, 24, 7, 25, 26, 52, 53, 54] (by decide +kernel) (by decide +kernel)
set_option maxRecDepth 20000 in
theorem gX3_queue_Jx4a65c_get_915e3 : GoodIn wsX3_queue (wsV RX3 151 RJx4a65c yJx4a65c_get_915e3 wsJx4a65c_get_915e3) := goodIn_app (goodIn_of _ (by decide +kernel)) ggX3_queue_Jx4a65c_get_915e3
theorem dX3_queue_0 : decode cX3_queue 0 = .ok (.iload_n 1, 1) := by decide +kernel
theorem dX3_queue_1 : decode cX3_queue 1 = .ok (.ifCond .lt 14, 3) := by decide +kernel
theorem dX3_queue_4 : decode cX3_queue 4 = .ok (.iload_n 1, 1) := by decide +kernel
theorem dX3_queue_5 : decode cX3_queue 5 = .ok (.aload_n 0, 1) := by decide +kernel
theorem dX3_queue_6 : decode cX3_queue 6 = .ok (.getfield 22, 3) := by decide +kernel
theorem dX3_queue_9 : decode cX3_queue 9 = .ok (.invokevirtual 43, 3) := by decide +kernel
theorem dX3_queue_12 : decode cX3_queue 12 = .ok (.if_icmp .lt 8, 3) := by decide +kernel
theorem dX3_queue_15 : decode cX3_queue 15 = .ok (.bipush (-9), 2) := by decide +kernel
theorem dX3_queue_17 : decode cX3_queue 17 = .ok (.goto 17, 3) := by decide +kernel
theorem dX3_queue_20 : decode cX3_queue 20 = .ok (.aload_n 0, 1) := by decide +kernel
theorem dX3_queue_21 : decode cX3_queue 21 = .ok (.getfield 22, 3) := by decide +kernel
theorem dX3_queue_24 : decode cX3_queue 24 = .ok (.iload_n 1, 1) := by decide +kernel
theorem dX3_queue_25 : decode cX3_queue 25 = .ok (.invokevirtual 151, 3) := by decide +kernel
theorem dX3_queue_28 : decode cX3_queue 28 = .ok (.checkcast 93, 3) := by decide +kernel
theorem dX3_queue_31 : decode cX3_queue 31 = .ok (.getfield 109, 3) := by decide +kernel
theorem dX3_queue_34 : decode cX3_queue 34 = .ok (.ireturn, 1) := by decide +kernel
set_option maxRecDepth 20000 in
theorem ggX3_callsThatAre_Jx4a65c_size_8abf5 : GoodIn wsX3_callsThatAre wsJx4a65c_size_8abf5 := goodIn_r _ [8, 9, 52, 53, 54] (by decide +kernel) (by decide +kernel)
set_option maxRecDepth 20000 in
theorem gX3_callsThatAre_Jx4a65c_size_8abf5 : GoodIn wsX3_callsThatAre (wsV RX3 43 RJx4a65c yJx4a65c_size_8abf5 wsJx4a65c_size_8abf5) := goodIn_app (goodIn_of _ (by decide +kernel)) ggX3_callsThatAre_Jx4a65c_size_8abf5
set_option maxRecDepth 20000 in
theorem ggX3_callsThatAre_Jx4a65c_get_915e3 : GoodIn wsX3_callsThatAre wsJx4a65c_get_915e3 := goodIn_r _ [13, 9, 14, 15, 16, 17, 18, 19, 20, 21, 22, 23, 24, 7, 25, 26, 52, 53, 54] (by decide +kernel) (by decide +kernel)
set_option maxRecDepth 20000 in
theorem gX3_callsThatAre_Jx4a65c_get_915e3 : GoodIn wsX3_callsThatAre (wsV RX3 151 RJx4a65c yJx4a65c_get_915e3 wsJx4a65c_get_915e3) := goodIn_app (goodIn_of _ (by decide +kernel)) ggX3_callsThatAre_Jx4a65c_get_915e3
theorem dX3_callsThatAre_0 : decode cX3_callsThatAre 0 = .ok (.iconst 0, 1) := by decide +kernel
theorem dX3_callsThatAre_1 : decode cX3_callsThatAre 1 = .ok (.istore_n 2, 1) := by decide +kernel
theorem dX3_callsThatAre_2 : decode cX3_callsThatAre 2 = .ok (.iconst 0, 1) := by decide +kernel
theorem dX3_callsThatAre_3 : decode cX3_callsThatAre 3 = .ok (.istore_n 3, 1) := by decide +kernel
theorem dX3_callsThatAre_4 : decode cX3_callsThatAre 4 = .ok (.iload_n 3, 1) := by decide +kernel
theorem dX3_callsThatAre_5 : decode cX3_callsThatAre 5 = .ok (.aload_n 0, 1) := by decide +kernel
theorem dX3_callsThatAre_6 : decode cX3_callsThatAre 6 = .ok (.getfield 16, 3) := by decide +kernel
theorem dX3_callsThatAre_9 : decode cX3_callsThatAre 9 = .ok (.invokevirtual 43, 3) := by decide +kernel
theorem dX3_callsThatAre_12 : decode cX3_callsThatAre 12 = .ok (.if_icmp .ge 30, 3) := by decide +kernel
theorem dX3_callsThatAre_15 : decode cX3_callsThatAre 15 = .ok (.aload_n 0, 1) := by decide +kernel
theorem dX3_callsThatAre_16 : decode cX3_callsThatAre 16 = .ok (.getfield 16, 3) := by decide +kernel
theorem dX3_callsThatAre_19 : decode cX3_callsThatAre 19 = .ok (.iload_n 3, 1) := by decide +kernel
theorem dX3_callsThatAre_20 : decode cX3_callsThatAre 20 = .ok (.invokevirtual 151, 3) := by decide +kernel
theorem dX3_callsThatAre_23 : decode cX3_callsThatAre 23 = .ok (.checkcast 93, 3) := by decide +kernel
theorem dX3_callsThatAre_26 : decode cX3_callsThatAre 26 = .ok (.getfield 118, 3) := by decide +kernel
theorem dX3_callsThatAre_29 : decode cX3_callsThatAre 29 = .ok (.iload_n 1, 1) := by decide +kernel
theorem dX3_callsThatAre_30 : decode cX3_callsThatAre 30 = .ok (.if_icmp .ne 6, 3) := by decide +kernel
theorem dX3_callsThatAre_33 : decode cX3_callsThatAre 33 = .ok (.iinc 2 1, 3) := by decide +kernel
theorem dX3_callsThatAre_36 : decode cX3_callsThatAre 36 = .ok (.iinc 3 1, 3) := by decide +kernel
theorem dX3_callsThatAre_39 : decode cX3_callsThatAre 39 = .ok (.goto (-35), 3) := by decide +kernel
theorem dX3_callsThatAre_42 : decode cX3_callsThatAre 42 = .ok (.iload_n 2, 1) := by decide +kernel
theorem dX3_callsThatAre_43 : decode cX3_callsThatAre 43 = .ok (.ireturn, 1) := by decide +kernel
set_option maxRecDepth 20000 in
theorem ggX3_askingsSoFar_Jx4a65c_size_8abf5 : GoodIn wsX3_askingsSoFar wsJx4a65c_size_8abf5 := goodIn_r _ [8, 9, 57, 58, 59] (by decide +kernel) (by decide +kernel)
set_option maxRecDepth 20000 in
theorem gX3_askingsSoFar_Jx4a65c_size_8abf5 : GoodIn wsX3_askingsSoFar (wsV RX3 43 RJx4a65c yJx4a65c_size_8abf5 wsJx4a65c_size_8abf5) := goodIn_app (goodIn_of _ (by decide +kernel)) ggX3_askingsSoFar_Jx4a65c_size_8abf5
set_option maxRecDepth 20000 in
theorem ggX3_askingsSoFar_Jx4a65c_get_915e3 : GoodIn wsX3_askingsSoFar wsJx4a65c_get_915e3 := goodIn_r _ [13, 9, 14, 15, 16, 17, 18, 19, 20, 21, 22, 23, 24, 7, 25, 26, 57, 58, 59] (by decide +kernel) (by decide +kernel)
set_option maxRecDepth 20000 in
theorem gX3_askingsSoFar_Jx4a65c_get_915e3 : GoodIn wsX3_askingsSoFar (wsV RX3 151 RJx4a65c yJx4a65c_get_915e3 wsJx4a65c_get_915e3) := goodIn_app (goodIn_of _ (by decide +kernel)) ggX3_askingsSoFar_Jx4a65c_get_915e3
theorem dX3_askingsSoFar_0 : decode cX3_askingsSoFar 0 = .ok (.iconst 0, 1) := by decide +kernel
theorem dX3_askingsSoFar_1 : decode cX3_askingsSoFar 1 = .ok (.istore_n 1, 1) := by decide +kernel
theorem dX3_askingsSoFar_2 : decode cX3_askingsSoFar 2 = .ok (.iconst 0, 1) := by decide +kernel
theorem dX3_askingsSoFar_3 : decode cX3_askingsSoFar 3 = .ok (.istore_n 2, 1) := by decide +kernel
theorem dX3_askingsSoFar_4 : decode cX3_askingsSoFar 4 = .ok (.iload_n 2, 1) := by decide +kernel
theorem dX3_askingsSoFar_5 : decode cX3_askingsSoFar 5 = .ok (.aload_n 0, 1) := by decide +kernel
theorem dX3_askingsSoFar_6 : decode cX3_askingsSoFar 6 = .ok (.getfield 10, 3) := by decide +kernel
theorem dX3_askingsSoFar_9 : decode cX3_askingsSoFar 9 = .ok (.invokevirtual 43, 3) := by decide +kernel
theorem dX3_askingsSoFar_12 : decode cX3_askingsSoFar 12 = .ok (.if_icmp .ge 26, 3) := by decide +kernel
theorem dX3_askingsSoFar_15 : decode cX3_askingsSoFar 15 = .ok (.iload_n 1, 1) := by decide +kernel
theorem dX3_askingsSoFar_16 : decode cX3_askingsSoFar 16 = .ok (.aload_n 0, 1) := by decide +kernel
theorem dX3_askingsSoFar_17 : decode cX3_askingsSoFar 17 = .ok (.getfield 10, 3) := by decide +kernel
theorem dX3_askingsSoFar_20 : decode cX3_askingsSoFar 20 = .ok (.iload_n 2, 1) := by decide +kernel
theorem dX3_askingsSoFar_21 : decode cX3_askingsSoFar 21 = .ok (.invokevirtual 151, 3) := by decide +kernel
theorem dX3_askingsSoFar_24 : decode cX3_askingsSoFar 24 = .ok (.checkcast 47, 3) := by decide +kernel
theorem dX3_askingsSoFar_27 : decode cX3_askingsSoFar 27 = .ok (.getfield 158, 3) := by decide +kernel
theorem dX3_askingsSoFar_30 : decode cX3_askingsSoFar 30 = .ok (.iadd, 1) := by decide +kernel
theorem dX3_askingsSoFar_31 : decode cX3_askingsSoFar 31 = .ok (.istore_n 1, 1) := by decide +kernel
theorem dX3_askingsSoFar_32 : decode cX3_askingsSoFar 32 = .ok (.iinc 2 1, 3) := by decide +kernel
theorem dX3_askingsSoFar_35 : decode cX3_askingsSoFar 35 = .ok (.goto (-31), 3) := by decide +kernel
theorem dX3_askingsSoFar_38 : decode cX3_askingsSoFar 38 = .ok (.iload_n 1, 1) := by decide +kernel
theorem dX3_askingsSoFar_39 : decode cX3_askingsSoFar 39 = .ok (.ireturn, 1) := by decide +kernel
set_option maxRecDepth 20000 in
theorem ggX3_openAskings_Jx4a65c_size_8abf5 : GoodIn wsX3_openAskings wsJx4a65c_size_8abf5 := goodIn_r _ [8, 9, 57, 58, 59] (by decide +kernel) (by decide +kernel)
set_option maxRecDepth 20000 in
theorem gX3_openAskings_Jx4a65c_size_8abf5 : GoodIn wsX3_openAskings (wsV RX3 43 RJx4a65c yJx4a65c_size_8abf5 wsJx4a65c_size_8abf5) := goodIn_app (goodIn_of _ (by decide +kernel)) ggX3_openAskings_Jx4a65c_size_8abf5
set_option maxRecDepth 20000 in
theorem ggX3_openAskings_Jx4a65c_get_915e3 : GoodIn wsX3_openAskings wsJx4a65c_get_915e3 := goodIn_r _ [13, 9, 14, 15, 16, 17, 18, 19, 20, 21, 22, 23, 24, 7, 25, 26, 57, 58, 59] (by decide +kernel) (by decide +kernel)
set_option maxRecDepth 20000 in
theorem gX3_openAskings_Jx4a65c_get_915e3 : GoodIn wsX3_openAskings (wsV RX3 151 RJx4a65c yJx4a65c_get_915e3 wsJx4a65c_get_915e3) := goodIn_app (goodIn_of _ (by decide +kernel)) ggX3_openAskings_Jx4a65c_get_915e3
theorem dX3_openAskings_0 : decode cX3_openAskings 0 = .ok (.iconst 0, 1) := by decide +kernel
theorem dX3_openAskings_1 : decode cX3_openAskings 1 = .ok (.istore_n 1, 1) := by decide +kernel
theorem dX3_openAskings_2 : decode cX3_openAskings 2 = .ok (.iconst 0, 1) := by decide +kernel
theorem dX3_openAskings_3 : decode cX3_openAskings 3 = .ok (.istore_n 2, 1) := by decide +kernel
theorem dX3_openAskings_4 : decode cX3_openAskings 4 = .ok (.iload_n 2, 1) := by decide +kernel
theorem dX3_openAskings_5 : decode cX3_openAskings 5 = .ok (.aload_n 0, 1) := by decide +kernel
theorem dX3_openAskings_6 : decode cX3_openAskings 6 = .ok (.getfield 10, 3) := by decide +kernel
theorem dX3_openAskings_9 : decode cX3_openAskings 9 = .ok (.invokevirtual 43, 3) := by decide +kernel
theorem dX3_openAskings_12 : decode cX3_openAskings 12 = .ok (.if_icmp .ge 26, 3) := by decide +kernel
theorem dX3_openAskings_15 : decode cX3_openAskings 15 = .ok (.iload_n 1, 1) := by decide +kernel
theorem dX3_openAskings_16 : decode cX3_openAskings 16 = .ok (.aload_n 0, 1) := by decide +kernel
theorem dX3_openAskings_17 : decode cX3_openAskings 17 = .ok (.getfield 10, 3) := by decide +kernel
theorem dX3_openAskings_20 : decode cX3_openAskings 20 = .ok (.iload_n 2, 1) := by decide +kernel
theorem dX3_openAskings_21 : decode cX3_openAskings 21 = .ok (.invokevirtual 151, 3) := by decide +kernel
theorem dX3_openAskings_24 : decode cX3_openAskings 24 = .ok (.checkcast 47, 3) := by decide +kernel
theorem dX3_openAskings_27 : decode cX3_openAskings 27 = .ok (.getfield 80, 3) := by decide +kernel
theorem dX3_openAskings_30 : decode cX3_openAskings 30 = .ok (.iadd, 1) := by decide +kernel
theorem dX3_openAskings_31 : decode cX3_openAskings 31 = .ok (.istore_n 1, 1) := by decide +kernel
theorem dX3_openAskings_32 : decode cX3_openAskings 32 = .ok (.iinc 2 1, 3) := by decide +kernel
theorem dX3_openAskings_35 : decode cX3_openAskings 35 = .ok (.goto (-31), 3) := by decide +kernel
theorem dX3_openAskings_38 : decode cX3_openAskings 38 = .ok (.iload_n 1, 1) := by decide +kernel
theorem dX3_openAskings_39 : decode cX3_openAskings 39 = .ok (.ireturn, 1) := by decide +kernel
set_option maxRecDepth 20000 in
theorem ggX3_count_X3_callsThatAre : GoodIn wsX3_count wsX3_callsThatAre := goodIn_r _ [11, 4, 12, 13, 14, 15, 16, 17, 18, 19, 20, 21, 22, 23, 24, 25, 26, 27, 28, 29, 30, 31, 32, 33, 34, 35, 36, 48, 49, 50, 51, 52, 53, 54, 55, 56, 57, 58, 59, 60, 61, 62, 63, 64, 65, 66, 67, 68, 69, 70, 71, 72, 73, 74, 75] (by decide +kernel) (by decide +kernel)
set_option maxRecDepth 20000 in
theorem gX3_count_X3_callsThatAre : GoodIn wsX3_count (wsV RX3 161 RX3 yX3_callsThatAre wsX3_callsThatAre) := goodIn_app (goodIn_of _ (by decide +kernel)) ggX3_count_X3_callsThatAre
set_option maxRecDepth 20000 in
theorem ggX3_count_Jx4a65c_size_8abf5 : GoodIn wsX3_count wsJx4a65c_size_8abf5 := goodIn_r _ [18, 19, 73, 74, 75] (by decide +kernel) (by decide +kernel)
set_option maxRecDepth 20000 in
theorem gX3_count_Jx4a65c_size_8abf5 : GoodIn wsX3_count (wsV RX3 43 RJx4a65c yJx4a65c_size_8abf5 wsJx4a65c_size_8abf5) := goodIn_app (goodIn_of _ (by decide +kernel)) ggX3_count_Jx4a65c_size_8abf5
set_option maxRecDepth 20000 in
theorem ggX3_count_X3_askingsSoFar : GoodIn wsX3_count wsX3_askingsSoFar := goodIn_r _ [40, 3, 41, 42, 14, 15, 16, 17, 18, 19, 20, 21, 22, 23, 24, 25, 26, 27, 28, 29, 30, 31, 32, 33, 34, 35, 36, 48, 49, 50, 51, 52, 53, 54, 55, 56, 57, 58, 59, 60, 76, 77, 78, 79, 80, 81, 82, 83, 84, 85, 86, 87, 88, 89, 90, 91, 92, 73, 74, 75] (by decide +kernel) (by decide +kernel)
set_option maxRecDepth 20000 in
theorem gX3_count_X3_askingsSoFar : GoodIn wsX3_count (wsV RX3 155 RX3 yX3_askingsSoFar wsX3_askingsSoFar) := goodIn_app (goodIn_of _ (by decide +kernel)) ggX3_count_X3_askingsSoFar
set_option maxRecDepth 20000 in
theorem ggX3_count_X3_openAskings : GoodIn wsX3_count wsX3_openAskings := goodIn_r _ [46, 3, 41, 47, 14, 15, 16, 17, 18, 19, 20, 21, 22, 23, 24, 25, 26, 27, 28, 29, 30, 31, 32, 33, 34, 35, 36, 48, 49, 50, 51, 52, 53, 54, 55, 56, 57, 58, 59, 60, 76, 77, 78, 79, 80, 81, 82, 83, 84, 85, 86, 87, 88, 89, 90, 91, 92, 73, 74, 75] (by decide +kernel) (by decide +kernel)
set_option maxRecDepth 20000 in
theorem gX3_count_X3_openAskings : GoodIn wsX3_count (wsV RX3 170 RX3 yX3_openAskings wsX3_openAskings) := goodIn_app (goodIn_of _ (by decide +kernel)) ggX3_count_X3_openAskings
theorem dX3_count_0 : decode cX3_count 0 = .ok (.iload_n 1, 1) := by decide +kernel
theorem dX3_count_1 : decode cX3_count 1 = .ok (.iconst 3, 1) := by decide +kernel
theorem dX3_count_2 : decode cX3_count 2 = .ok (.if_icmp .lt 17, 3) := by decide +kernel
theorem dX3_count_5 : decode cX3_count 5 = .ok (.iload_n 1, 1) := by decide +kernel
theorem dX3_count_6 : decode cX3_count 6 = .ok (.bipush 7, 2) := by decide +kernel
theorem dX3_count_8 : decode cX3_count 8 = .ok (.if_icmp .gt 11, 3) := by decide +kernel
theorem dX3_count_11 : decode cX3_count 11 = .ok (.aload_n 0, 1) := by decide +kernel
theorem dX3_count_12 : decode cX3_count 12 = .ok (.iload_n 1, 1) := by decide +kernel
theorem dX3_count_13 : decode cX3_count 13 = .ok (.iconst 3, 1) := by decide +kernel
theorem dX3_count_14 : decode cX3_count 14 = .ok (.isub, 1) := by decide +kernel
theorem dX3_count_15 : decode cX3_count 15 = .ok (.invokevirtual 161, 3) := by decide +kernel
theorem dX3_count_18 : decode cX3_count 18 = .ok (.ireturn, 1) := by decide +kernel
theorem dX3_count_19 : decode cX3_count 19 = .ok (.iload_n 1, 1) := by decide +kernel
theorem dX3_count_20 : decode cX3_count 20 = .ok (.bipush 11, 2) := by decide +kernel
theorem dX3_count_22 : decode cX3_count 22 = .ok (.if_icmp .lt 19, 3) := by decide +kernel
theorem dX3_count_25 : decode cX3_count 25 = .ok (.iload_n 1, 1) := by decide +kernel
theorem dX3_count_26 : decode cX3_count 26 = .ok (.bipush 16, 2) := by decide +kernel
theorem dX3_count_28 : decode cX3_count 28 = .ok (.if_icmp .gt 13, 3) := by decide +kernel
theorem dX3_count_31 : decode cX3_count 31 = .ok (.aload_n 0, 1) := by decide +kernel
theorem dX3_count_32 : decode cX3_count 32 = .ok (.getfield 25, 3) := by decide +kernel
theorem dX3_count_35 : decode cX3_count 35 = .ok (.iload_n 1, 1) := by decide +kernel
theorem dX3_count_36 : decode cX3_count 36 = .ok (.bipush 10, 2) := by decide +kernel
theorem dX3_count_38 : decode cX3_count 38 = .ok (.isub, 1) := by decide +kernel
theorem dX3_count_39 : decode cX3_count 39 = .ok (.iaload, 1) := by decide +kernel
theorem dX3_count_40 : decode cX3_count 40 = .ok (.ireturn, 1) := by decide +kernel
theorem dX3_count_41 : decode cX3_count 41 = .ok (.iload_n 1, 1) := by decide +kernel
theorem dX3_count_42 : decode cX3_count 42 = .ok (.tableswitch 127 0 17 #[86, 91, 99, 127, 127, 127, 127, 127, 107, 112, 117, 127, 127, 127, 127, 127, 127, 122], 86) := by decide +kernel
theorem dX3_count_128 : decode cX3_count 128 = .ok (.aload_n 0, 1) := by decide +kernel
theorem dX3_count_129 : decode cX3_count 129 = .ok (.getfield 95, 3) := by decide +kernel
theorem dX3_count_132 : decode cX3_count 132 = .ok (.ireturn, 1) := by decide +kernel
theorem dX3_count_133 : decode cX3_count 133 = .ok (.aload_n 0, 1) := by decide +kernel
theorem dX3_count_134 : decode cX3_count 134 = .ok (.getfield 10, 3) := by decide +kernel
theorem dX3_count_137 : decode cX3_count 137 = .ok (.invokevirtual 43, 3) := by decide +kernel
theorem dX3_count_140 : decode cX3_count 140 = .ok (.ireturn, 1) := by decide +kernel
theorem dX3_count_141 : decode cX3_count 141 = .ok (.aload_n 0, 1) := by decide +kernel
theorem dX3_count_142 : decode cX3_count 142 = .ok (.getfield 16, 3) := by decide +kernel
theorem dX3_count_145 : decode cX3_count 145 = .ok (.invokevirtual 43, 3) := by decide +kernel
theorem dX3_count_148 : decode cX3_count 148 = .ok (.ireturn, 1) := by decide +kernel
theorem dX3_count_149 : decode cX3_count 149 = .ok (.aload_n 0, 1) := by decide +kernel
theorem dX3_count_150 : decode cX3_count 150 = .ok (.invokevirtual 155, 3) := by decide +kernel
theorem dX3_count_153 : decode cX3_count 153 = .ok (.ireturn, 1) := by decide +kernel
theorem dX3_count_154 : decode cX3_count 154 = .ok (.aload_n 0, 1) := by decide +kernel
theorem dX3_count_155 : decode cX3_count 155 = .ok (.getfield 164, 3) := by decide +kernel
theorem dX3_count_158 : decode cX3_count 158 = .ok (.ireturn, 1) := by decide +kernel
theorem dX3_count_159 : decode cX3_count 159 = .ok (.aload_n 0, 1) := by decide +kernel
theorem dX3_count_160 : decode cX3_count 160 = .ok (.getfield 167, 3) := by decide +kernel
theorem dX3_count_163 : decode cX3_count 163 = .ok (.ireturn, 1) := by decide +kernel
theorem dX3_count_164 : decode cX3_count 164 = .ok (.aload_n 0, 1) := by decide +kernel
theorem dX3_count_165 : decode cX3_count 165 = .ok (.invokevirtual 170, 3) := by decide +kernel
theorem dX3_count_168 : decode cX3_count 168 = .ok (.ireturn, 1) := by decide +kernel
theorem dX3_count_169 : decode cX3_count 169 = .ok (.bipush (-9), 2) := by decide +kernel
theorem dX3_count_171 : decode cX3_count 171 = .ok (.ireturn, 1) := by decide +kernel
set_option maxRecDepth 20000 in
theorem ggX3_server_X3_refuse : GoodIn wsX3_server wsX3_refuse := goodIn_r _ [10, 11, 86, 87, 88, 89, 90, 91, 92, 93, 94, 95, 96, 97, 98] (by decide +kernel) (by decide +kernel)
set_option maxRecDepth 20000 in
theorem gX3_server_X3_refuse : GoodIn wsX3_server (wsV RX3 39 RX3 yX3_refuse wsX3_refuse) := goodIn_app (goodIn_of _ (by decide +kernel)) ggX3_server_X3_refuse
set_option maxRecDepth 20000 in
theorem ggX3_server_Jx4a65c_size_8abf5 : GoodIn wsX3_server wsJx4a65c_size_8abf5 := goodIn_r _ [16, 17, 116, 117, 118] (by decide +kernel) (by decide +kernel)
set_option maxRecDepth 20000 in
theorem gX3_server_Jx4a65c_size_8abf5 : GoodIn wsX3_server (wsV RX3 43 RJx4a65c yJx4a65c_size_8abf5 wsJx4a65c_size_8abf5) := goodIn_app (goodIn_of _ (by decide +kernel)) ggX3_server_Jx4a65c_size_8abf5
set_option maxRecDepth 20000 in
theorem ggX3_server_X2_init : GoodIn wsX3_server wsX2_init := goodIn_r _ [20, 21, 22, 23, 24, 25, 26, 27, 28, 29, 30, 31, 99, 100, 101, 102, 103, 104, 105, 106, 107, 108, 109, 110, 111, 112, 113, 114, 115] (by decide +kernel) (by decide +kernel)
set_option maxRecDepth 20000 in
theorem gX3_server_X2_init : GoodIn wsX3_server (wsX2_init) := ggX3_server_X2_init
set_option maxRecDepth 20000 in
theorem ggX3_server_Jx4a65c_add_9ea2d : GoodIn wsX3_server wsJx4a65c_add_9ea2d := goodIn_r _ [35, 36, 37, 38, 17, 39, 40, 41, 15, 42, 43, 44, 45, 46, 47, 48, 49, 50, 51, 52, 53, 54, 55, 56, 57, 58, 59, 60, 61, 62, 63, 64, 65, 66, 67, 68, 69, 70, 71, 72, 73, 74, 75, 76, 77, 78, 79, 80, 81, 82, 83, 84, 85, 116, 117, 118] (by decide +kernel) (by decide +kernel)
set_option maxRecDepth 20000 in
theorem gX3_server_Jx4a65c_add_9ea2d : GoodIn wsX3_server (wsV RX3 52 RJx4a65c yJx4a65c_add_9ea2d wsJx4a65c_add_9ea2d) := goodIn_app (goodIn_of _ (by decide +kernel)) ggX3_server_Jx4a65c_add_9ea2d
theorem dX3_server_0 : decode cX3_server 0 = .ok (.iload_n 2, 1) := by decide +kernel
theorem dX3_server_1 : decode cX3_server 1 = .ok (.ifCond .lt 8, 3) := by decide +kernel
theorem dX3_server_4 : decode cX3_server 4 = .ok (.iload_n 2, 1) := by decide +kernel
theorem dX3_server_5 : decode cX3_server 5 = .ok (.iconst 4, 1) := by decide +kernel
theorem dX3_server_6 : decode cX3_server 6 = .ok (.if_icmp .lt 9, 3) := by decide +kernel
theorem dX3_server_9 : decode cX3_server 9 = .ok (.aload_n 0, 1) := by decide +kernel
theorem dX3_server_10 : decode cX3_server 10 = .ok (.iconst (-1), 1) := by decide +kernel
theorem dX3_server_11 : decode cX3_server 11 = .ok (.invokevirtual 39, 3) := by decide +kernel
theorem dX3_server_14 : decode cX3_server 14 = .ok (.ireturn, 1) := by decide +kernel
theorem dX3_server_15 : decode cX3_server 15 = .ok (.iload_n 1, 1) := by decide +kernel
theorem dX3_server_16 : decode cX3_server 16 = .ok (.iconst 1, 1) := by decide +kernel
theorem dX3_server_17 : decode cX3_server 17 = .ok (.if_icmp .lt 19, 3) := by decide +kernel
theorem dX3_server_20 : decode cX3_server 20 = .ok (.iload_n 3, 1) := by decide +kernel
theorem dX3_server_21 : decode cX3_server 21 = .ok (.iconst 1, 1) := by decide +kernel
theorem dX3_server_22 : decode cX3_server 22 = .ok (.if_icmp .lt 14, 3) := by decide +kernel
theorem dX3_server_25 : decode cX3_server 25 = .ok (.iload 4, 2) := by decide +kernel
theorem dX3_server_27 : decode cX3_server 27 = .ok (.iconst 1, 1) := by decide +kernel
theorem dX3_server_28 : decode cX3_server 28 = .ok (.if_icmp .lt 8, 3) := by decide +kernel
theorem dX3_server_31 : decode cX3_server 31 = .ok (.iload 5, 2) := by decide +kernel
theorem dX3_server_33 : decode cX3_server 33 = .ok (.ifCond .ge 10, 3) := by decide +kernel
theorem dX3_server_36 : decode cX3_server 36 = .ok (.aload_n 0, 1) := by decide +kernel
theorem dX3_server_37 : decode cX3_server 37 = .ok (.bipush (-4), 2) := by decide +kernel
theorem dX3_server_39 : decode cX3_server 39 = .ok (.invokevirtual 39, 3) := by decide +kernel
theorem dX3_server_42 : decode cX3_server 42 = .ok (.ireturn, 1) := by decide +kernel
theorem dX3_server_43 : decode cX3_server 43 = .ok (.iload_n 1, 1) := by decide +kernel
theorem dX3_server_44 : decode cX3_server 44 = .ok (.bipush 100, 2) := by decide +kernel
theorem dX3_server_46 : decode cX3_server 46 = .ok (.if_icmp .gt 24, 3) := by decide +kernel
theorem dX3_server_49 : decode cX3_server 49 = .ok (.iload_n 3, 1) := by decide +kernel
theorem dX3_server_50 : decode cX3_server 50 = .ok (.bipush 20, 2) := by decide +kernel
theorem dX3_server_52 : decode cX3_server 52 = .ok (.if_icmp .gt 18, 3) := by decide +kernel
theorem dX3_server_55 : decode cX3_server 55 = .ok (.iload 4, 2) := by decide +kernel
theorem dX3_server_57 : decode cX3_server 57 = .ok (.sipush 200, 3) := by decide +kernel
theorem dX3_server_60 : decode cX3_server 60 = .ok (.if_icmp .gt 10, 3) := by decide +kernel
theorem dX3_server_63 : decode cX3_server 63 = .ok (.iload 5, 2) := by decide +kernel
theorem dX3_server_65 : decode cX3_server 65 = .ok (.bipush 20, 2) := by decide +kernel
theorem dX3_server_67 : decode cX3_server 67 = .ok (.if_icmp .le 10, 3) := by decide +kernel
theorem dX3_server_70 : decode cX3_server 70 = .ok (.aload_n 0, 1) := by decide +kernel
theorem dX3_server_71 : decode cX3_server 71 = .ok (.bipush (-6), 2) := by decide +kernel
theorem dX3_server_73 : decode cX3_server 73 = .ok (.invokevirtual 39, 3) := by decide +kernel
theorem dX3_server_76 : decode cX3_server 76 = .ok (.ireturn, 1) := by decide +kernel
theorem dX3_server_77 : decode cX3_server 77 = .ok (.aload_n 0, 1) := by decide +kernel
theorem dX3_server_78 : decode cX3_server 78 = .ok (.getfield 10, 3) := by decide +kernel
theorem dX3_server_81 : decode cX3_server 81 = .ok (.invokevirtual 43, 3) := by decide +kernel
theorem dX3_server_84 : decode cX3_server 84 = .ok (.bipush 8, 2) := by decide +kernel
theorem dX3_server_86 : decode cX3_server 86 = .ok (.if_icmp .lt 10, 3) := by decide +kernel
theorem dX3_server_89 : decode cX3_server 89 = .ok (.aload_n 0, 1) := by decide +kernel
theorem dX3_server_90 : decode cX3_server 90 = .ok (.bipush (-6), 2) := by decide +kernel
theorem dX3_server_92 : decode cX3_server 92 = .ok (.invokevirtual 39, 3) := by decide +kernel
theorem dX3_server_95 : decode cX3_server 95 = .ok (.ireturn, 1) := by decide +kernel
theorem dX3_server_96 : decode cX3_server 96 = .ok (.new 47, 3) := by decide +kernel
theorem dX3_server_99 : decode cX3_server 99 = .ok (.dup, 1) := by decide +kernel
theorem dX3_server_100 : decode cX3_server 100 = .ok (.aload_n 0, 1) := by decide +kernel
theorem dX3_server_101 : decode cX3_server 101 = .ok (.getfield 10, 3) := by decide +kernel
theorem dX3_server_104 : decode cX3_server 104 = .ok (.invokevirtual 43, 3) := by decide +kernel
theorem dX3_server_107 : decode cX3_server 107 = .ok (.iload_n 1, 1) := by decide +kernel
theorem dX3_server_108 : decode cX3_server 108 = .ok (.iload_n 2, 1) := by decide +kernel
theorem dX3_server_109 : decode cX3_server 109 = .ok (.iload_n 3, 1) := by decide +kernel
theorem dX3_server_110 : decode cX3_server 110 = .ok (.iload 4, 2) := by decide +kernel
theorem dX3_server_112 : decode cX3_server 112 = .ok (.iload 5, 2) := by decide +kernel
theorem dX3_server_114 : decode cX3_server 114 = .ok (.invokespecial 49, 3) := by decide +kernel
theorem dX3_server_117 : decode cX3_server 117 = .ok (.astore 6, 2) := by decide +kernel
theorem dX3_server_119 : decode cX3_server 119 = .ok (.aload_n 0, 1) := by decide +kernel
theorem dX3_server_120 : decode cX3_server 120 = .ok (.getfield 10, 3) := by decide +kernel
theorem dX3_server_123 : decode cX3_server 123 = .ok (.aload 6, 2) := by decide +kernel
theorem dX3_server_125 : decode cX3_server 125 = .ok (.invokevirtual 52, 3) := by decide +kernel
theorem dX3_server_128 : decode cX3_server 128 = .ok (.pop, 1) := by decide +kernel
theorem dX3_server_129 : decode cX3_server 129 = .ok (.aload 6, 2) := by decide +kernel
theorem dX3_server_131 : decode cX3_server 131 = .ok (.getfield 56, 3) := by decide +kernel
theorem dX3_server_134 : decode cX3_server 134 = .ok (.ireturn, 1) := by decide +kernel
set_option maxRecDepth 20000 in
theorem ggX3_askByRule_X3_chosen : GoodIn wsX3_askByRule wsX3_chosen := goodIn_r _ [9, 3, 10, 11, 12, 8, 13, 14, 15, 16, 17, 18, 19, 20, 21, 22, 23, 24, 25, 26, 27, 28, 29, 30, 31, 32, 33, 34, 35, 36, 37, 38, 39, 40, 41, 42, 43, 44, 45, 46, 47, 48, 49, 50, 51, 52, 53, 54, 55, 56, 57, 58, 59, 60, 61, 62, 63, 64, 65, 66, 67, 68, 69, 70, 71, 72, 73, 74, 123, 124, 125, 126, 127, 128, 129, 130, 131, 132, 133, 134, 135, 136, 137, 138, 139, 140, 141, 142, 143, 144, 145, 146, 147, 148, 149, 150, 151, 152, 153, 154, 155] (by decide +kernel) (by decide +kernel)
set_option maxRecDepth 20000 in
theorem gX3_askByRule_X3_chosen : GoodIn wsX3_askByRule (wsV RX3 140 RX3 yX3_chosen wsX3_chosen) := goodIn_app (goodIn_of _ (by decide +kernel)) ggX3_askByRule_X3_chosen
set_option maxRecDepth 20000 in
theorem ggX3_askByRule_X3_settleCredits : GoodIn wsX3_askByRule wsX3_settleCredits := goodIn_r _ [78, 14, 15, 16, 17, 18, 19, 20, 21, 22, 23, 24, 25, 26, 27, 28, 29, 30, 31, 32, 33, 34, 35, 36, 37, 38, 39, 40, 41, 42, 43, 44, 45, 46, 47, 48, 49, 123, 124, 125, 126, 127, 128, 129, 130, 131, 132, 133, 134, 135, 136, 137, 138, 139, 140, 141, 142, 143, 144, 145, 146, 147, 148, 149, 150, 151, 152, 153, 154, 155] (by decide +kernel) (by decide +kernel)
set_option maxRecDepth 20000 in
theorem gX3_askByRule_X3_settleCredits : GoodIn wsX3_askByRule (wsV RX3 205 RX3 yX3_settleCredits wsX3_settleCredits) := goodIn_app (goodIn_of _ (by decide +kernel)) ggX3_askByRule_X3_settleCredits
set_option maxRecDepth 20000 in
theorem ggX3_askByRule_X2_takeAsking : GoodIn wsX3_askByRule wsX2_takeAsking := goodIn_r _ [82, 83, 47, 84, 85, 86, 87, 88, 89, 90, 91, 92, 93, 94, 95, 96, 97, 98, 99, 136, 137, 138, 139, 140, 141, 142, 143, 144, 145, 146, 147, 148, 149, 150, 151, 152, 156, 157, 158, 159] (by decide +kernel) (by decide +kernel)
set_option maxRecDepth 20000 in
theorem gX3_askByRule_X2_takeAsking : GoodIn wsX3_askByRule (wsV RX3 209 RX2 yX2_takeAsking wsX2_takeAsking) := goodIn_app (goodIn_of _ (by decide +kernel)) ggX3_askByRule_X2_takeAsking
set_option maxRecDepth 20000 in
theorem ggX3_askByRule_X1_begin : GoodIn wsX3_askByRule wsX1_begin := goodIn_r _ [104, 105, 106, 107, 108, 109, 110, 111, 112, 113, 114, 115, 116, 117, 118, 119, 120, 121, 122, 156, 157, 158, 159, 136, 137, 138, 139, 140, 141, 142, 143, 144, 145, 146, 147, 148, 149, 150, 151, 152] (by decide +kernel) (by decide +kernel)
set_option maxRecDepth 20000 in
theorem gX3_askByRule_X1_begin : GoodIn wsX3_askByRule (wsV RX3 213 RX1 yX1_begin wsX1_begin) := goodIn_app (goodIn_of _ (by decide +kernel)) ggX3_askByRule_X1_begin
theorem dX3_askByRule_0 : decode cX3_askByRule 0 = .ok (.aload_n 0, 1) := by decide +kernel
theorem dX3_askByRule_1 : decode cX3_askByRule 1 = .ok (.aload_n 1, 1) := by decide +kernel
theorem dX3_askByRule_2 : decode cX3_askByRule 2 = .ok (.getfield 199, 3) := by decide +kernel
theorem dX3_askByRule_5 : decode cX3_askByRule 5 = .ok (.aload_n 1, 1) := by decide +kernel
theorem dX3_askByRule_6 : decode cX3_askByRule 6 = .ok (.getfield 202, 3) := by decide +kernel
theorem dX3_askByRule_9 : decode cX3_askByRule 9 = .ok (.invokevirtual 140, 3) := by decide +kernel
theorem dX3_askByRule_12 : decode cX3_askByRule 12 = .ok (.astore_n 2, 1) := by decide +kernel
theorem dX3_askByRule_13 : decode cX3_askByRule 13 = .ok (.aload_n 2, 1) := by decide +kernel
theorem dX3_askByRule_14 : decode cX3_askByRule 14 = .ok (.ifnonnull 5, 3) := by decide +kernel
theorem dX3_askByRule_17 : decode cX3_askByRule 17 = .ok (.iconst 0, 1) := by decide +kernel
theorem dX3_askByRule_18 : decode cX3_askByRule 18 = .ok (.ireturn, 1) := by decide +kernel
theorem dX3_askByRule_19 : decode cX3_askByRule 19 = .ok (.aload_n 0, 1) := by decide +kernel
theorem dX3_askByRule_20 : decode cX3_askByRule 20 = .ok (.getfield 29, 3) := by decide +kernel
theorem dX3_askByRule_23 : decode cX3_askByRule 23 = .ok (.ifCond .ne 12, 3) := by decide +kernel
theorem dX3_askByRule_26 : decode cX3_askByRule 26 = .ok (.aload_n 0, 1) := by decide +kernel
theorem dX3_askByRule_27 : decode cX3_askByRule 27 = .ok (.aload_n 1, 1) := by decide +kernel
theorem dX3_askByRule_28 : decode cX3_askByRule 28 = .ok (.getfield 202, 3) := by decide +kernel
theorem dX3_askByRule_31 : decode cX3_askByRule 31 = .ok (.aload_n 2, 1) := by decide +kernel
theorem dX3_askByRule_32 : decode cX3_askByRule 32 = .ok (.invokevirtual 205, 3) := by decide +kernel
theorem dX3_askByRule_35 : decode cX3_askByRule 35 = .ok (.aload_n 1, 1) := by decide +kernel
theorem dX3_askByRule_36 : decode cX3_askByRule 36 = .ok (.aload_n 2, 1) := by decide +kernel
theorem dX3_askByRule_37 : decode cX3_askByRule 37 = .ok (.aload_n 0, 1) := by decide +kernel
theorem dX3_askByRule_38 : decode cX3_askByRule 38 = .ok (.getfield 95, 3) := by decide +kernel
theorem dX3_askByRule_41 : decode cX3_askByRule 41 = .ok (.invokevirtual 209, 3) := by decide +kernel
theorem dX3_askByRule_44 : decode cX3_askByRule 44 = .ok (.invokevirtual 213, 3) := by decide +kernel
theorem dX3_askByRule_47 : decode cX3_askByRule 47 = .ok (.iconst 1, 1) := by decide +kernel
theorem dX3_askByRule_48 : decode cX3_askByRule 48 = .ok (.ireturn, 1) := by decide +kernel
set_option maxRecDepth 20000 in
theorem ggX3_joinLine_Jx4a65c_size_8abf5 : GoodIn wsX3_joinLine wsJx4a65c_size_8abf5 := goodIn_r _ [8, 9, 114, 115, 116] (by decide +kernel) (by decide +kernel)
set_option maxRecDepth 20000 in
theorem gX3_joinLine_Jx4a65c_size_8abf5 : GoodIn wsX3_joinLine (wsV RX3 43 RJx4a65c yJx4a65c_size_8abf5 wsJx4a65c_size_8abf5) := goodIn_app (goodIn_of _ (by decide +kernel)) ggX3_joinLine_Jx4a65c_size_8abf5
set_option maxRecDepth 20000 in
theorem ggX3_joinLine_Jx4a65c_get_915e3 : GoodIn wsX3_joinLine wsJx4a65c_get_915e3 := goodIn_r _ [13, 9, 14, 15, 16, 17, 18, 19, 20, 21, 22, 23, 24, 7, 25, 26, 114, 115, 116] (by decide +kernel) (by decide +kernel)
set_option maxRecDepth 20000 in
theorem gX3_joinLine_Jx4a65c_get_915e3 : GoodIn wsX3_joinLine (wsV RX3 151 RJx4a65c yJx4a65c_get_915e3 wsJx4a65c_get_915e3) := goodIn_app (goodIn_of _ (by decide +kernel)) ggX3_joinLine_Jx4a65c_get_915e3
set_option maxRecDepth 20000 in
theorem ggX3_joinLine_X1_goesAheadOf : GoodIn wsX3_joinLine wsX1_goesAheadOf := goodIn_r _ [31, 32, 33, 34, 89, 90, 91, 92, 93, 94, 95, 96, 97, 98, 99, 100] (by decide +kernel) (by decide +kernel)
set_option maxRecDepth 20000 in
theorem gX3_joinLine_X1_goesAheadOf : GoodIn wsX3_joinLine (wsV RX3 217 RX1 yX1_goesAheadOf wsX1_goesAheadOf) := goodIn_app (goodIn_of _ (by decide +kernel)) ggX3_joinLine_X1_goesAheadOf
set_option maxRecDepth 20000 in
theorem ggX3_joinLine_Jx4a65c_add_7a177 : GoodIn wsX3_joinLine wsJx4a65c_add_7a177 := goodIn_r _ [38, 39, 40, 9, 26, 41, 42, 43, 44, 45, 46, 47, 7, 48, 49, 50, 51, 52, 53, 54, 55, 56, 57, 58, 59, 60, 61, 62, 63, 64, 65, 66, 67, 68, 69, 70, 71, 72, 73, 74, 75, 76, 77, 78, 79, 80, 81, 82, 83, 84, 85, 86, 87, 88, 114, 115, 116] (by decide +kernel) (by decide +kernel)
set_option maxRecDepth 20000 in
theorem gX3_joinLine_Jx4a65c_add_7a177 : GoodIn wsX3_joinLine (wsV RX3 220 RJx4a65c yJx4a65c_add_7a177 wsJx4a65c_add_7a177) := goodIn_app (goodIn_of _ (by decide +kernel)) ggX3_joinLine_Jx4a65c_add_7a177
theorem dX3_joinLine_0 : decode cX3_joinLine 0 = .ok (.aload_n 1, 1) := by decide +kernel
theorem dX3_joinLine_1 : decode cX3_joinLine 1 = .ok (.iconst 0, 1) := by decide +kernel
theorem dX3_joinLine_2 : decode cX3_joinLine 2 = .ok (.putfield 118, 3) := by decide +kernel
theorem dX3_joinLine_5 : decode cX3_joinLine 5 = .ok (.iconst 0, 1) := by decide +kernel
theorem dX3_joinLine_6 : decode cX3_joinLine 6 = .ok (.istore_n 2, 1) := by decide +kernel
theorem dX3_joinLine_7 : decode cX3_joinLine 7 = .ok (.iload_n 2, 1) := by decide +kernel
theorem dX3_joinLine_8 : decode cX3_joinLine 8 = .ok (.aload_n 0, 1) := by decide +kernel
theorem dX3_joinLine_9 : decode cX3_joinLine 9 = .ok (.getfield 22, 3) := by decide +kernel
theorem dX3_joinLine_12 : decode cX3_joinLine 12 = .ok (.invokevirtual 43, 3) := by decide +kernel
theorem dX3_joinLine_15 : decode cX3_joinLine 15 = .ok (.if_icmp .ge 27, 3) := by decide +kernel
theorem dX3_joinLine_18 : decode cX3_joinLine 18 = .ok (.aload_n 0, 1) := by decide +kernel
theorem dX3_joinLine_19 : decode cX3_joinLine 19 = .ok (.getfield 22, 3) := by decide +kernel
theorem dX3_joinLine_22 : decode cX3_joinLine 22 = .ok (.iload_n 2, 1) := by decide +kernel
theorem dX3_joinLine_23 : decode cX3_joinLine 23 = .ok (.invokevirtual 151, 3) := by decide +kernel
theorem dX3_joinLine_26 : decode cX3_joinLine 26 = .ok (.checkcast 93, 3) := by decide +kernel
theorem dX3_joinLine_29 : decode cX3_joinLine 29 = .ok (.aload_n 1, 1) := by decide +kernel
theorem dX3_joinLine_30 : decode cX3_joinLine 30 = .ok (.invokevirtual 217, 3) := by decide +kernel
theorem dX3_joinLine_33 : decode cX3_joinLine 33 = .ok (.ifCond .eq 9, 3) := by decide +kernel
theorem dX3_joinLine_36 : decode cX3_joinLine 36 = .ok (.iinc 2 1, 3) := by decide +kernel
theorem dX3_joinLine_39 : decode cX3_joinLine 39 = .ok (.goto (-32), 3) := by decide +kernel
theorem dX3_joinLine_42 : decode cX3_joinLine 42 = .ok (.aload_n 0, 1) := by decide +kernel
theorem dX3_joinLine_43 : decode cX3_joinLine 43 = .ok (.getfield 22, 3) := by decide +kernel
theorem dX3_joinLine_46 : decode cX3_joinLine 46 = .ok (.iload_n 2, 1) := by decide +kernel
theorem dX3_joinLine_47 : decode cX3_joinLine 47 = .ok (.aload_n 1, 1) := by decide +kernel
theorem dX3_joinLine_48 : decode cX3_joinLine 48 = .ok (.invokevirtual 220, 3) := by decide +kernel
theorem dX3_joinLine_51 : decode cX3_joinLine 51 = .ok (.return_, 1) := by decide +kernel
set_option maxRecDepth 20000 in
theorem ggX3_call_X3_refuse : GoodIn wsX3_call wsX3_refuse := goodIn_r _ [13, 14, 208, 209, 210, 211, 212, 213, 214, 215, 216, 217, 218, 219, 220] (by decide +kernel) (by decide +kernel)
set_option maxRecDepth 20000 in
theorem gX3_call_X3_refuse : GoodIn wsX3_call (wsV RX3 39 RX3 yX3_refuse wsX3_refuse) := goodIn_app (goodIn_of _ (by decide +kernel)) ggX3_call_X3_refuse
set_option maxRecDepth 20000 in
theorem ggX3_call_Jx4a65c_size_8abf5 : GoodIn wsX3_call wsJx4a65c_size_8abf5 := goodIn_r _ [19, 20, 233, 234, 235] (by decide +kernel) (by decide +kernel)
set_option maxRecDepth 20000 in
theorem gX3_call_Jx4a65c_size_8abf5 : GoodIn wsX3_call (wsV RX3 43 RJx4a65c yJx4a65c_size_8abf5 wsJx4a65c_size_8abf5) := goodIn_app (goodIn_of _ (by decide +kernel)) ggX3_call_Jx4a65c_size_8abf5
set_option maxRecDepth 20000 in
theorem ggX3_call_X1_init : GoodIn wsX3_call wsX1_init := goodIn_r _ [23, 24, 25, 26, 27, 28, 29, 30, 31, 32, 33, 34, 35, 221, 222, 223, 224, 225, 226, 227, 228, 229, 230, 231, 232] (by decide +kernel) (by decide +kernel)
set_option maxRecDepth 20000 in
theorem gX3_call_X1_init : GoodIn wsX3_call (wsX1_init) := ggX3_call_X1_init
set_option maxRecDepth 20000 in
theorem ggX3_call_Jx4a65c_add_9ea2d : GoodIn wsX3_call wsJx4a65c_add_9ea2d := goodIn_r _ [39, 40, 41, 42, 20, 43, 44, 45, 18, 46, 47, 48, 49, 50, 51, 52, 53, 54, 55, 56, 57, 58, 59, 60, 61, 62, 63, 64, 65, 66, 67, 68, 69, 70, 71, 72, 73, 74, 75, 76, 77, 78, 79, 80, 81, 82, 83, 84, 85, 86, 87, 88, 89, 233, 234, 235] (by decide +kernel) (by decide +kernel)
set_option maxRecDepth 20000 in
theorem gX3_call_Jx4a65c_add_9ea2d : GoodIn wsX3_call (wsV RX3 52 RJx4a65c yJx4a65c_add_9ea2d wsJx4a65c_add_9ea2d) := goodIn_app (goodIn_of _ (by decide +kernel)) ggX3_call_Jx4a65c_add_9ea2d
set_option maxRecDepth 20000 in
theorem ggX3_call_X3_askByRule : GoodIn wsX3_call wsX3_askByRule := goodIn_r _ [93, 94, 95, 96, 6, 97, 98, 99, 12, 100, 101, 102, 103, 104, 105, 106, 107, 108, 15, 16, 17, 18, 19, 20, 109, 110, 111, 112, 113, 114, 115, 116, 117, 118, 119, 120, 121, 122, 123, 124, 42, 125, 126, 127, 128, 129, 130, 131, 132, 133, 134, 135, 136, 137, 138, 139, 140, 141, 142, 143, 144, 84, 58, 85, 145, 146, 147, 148, 149, 150, 151, 152, 153, 154, 155, 156, 157, 158, 159, 160, 161, 162, 163, 164, 165, 166, 167, 168, 169, 170, 171, 172, 173, 174, 25, 26, 175, 176, 177, 178, 179, 180, 181, 5, 182, 183, 184, 185, 186, 187, 33, 221, 222, 223, 224, 225, 226, 227, 228, 229, 230, 231, 232, 208, 209, 210, 211, 212, 213, 214, 215, 216, 217, 218, 219, 220, 236, 237, 238, 239, 240, 241, 242, 243, 244, 245, 246, 247, 248, 249, 250, 251, 252, 233, 234, 235, 253, 254, 255, 256] (by decide +kernel) (by decide +kernel)
set_option maxRecDepth 20000 in
theorem gX3_call_X3_askByRule : GoodIn wsX3_call (wsV RX3 101 RX3 yX3_askByRule wsX3_askByRule) := goodIn_app (goodIn_of _ (by decide +kernel)) ggX3_call_X3_askByRule
set_option maxRecDepth 20000 in
theorem ggX3_call_X3_joinLine : GoodIn wsX3_call wsX3_joinLine := goodIn_r _ [191, 192, 193, 194, 15, 16, 17, 18, 19, 20, 109, 110, 111, 112, 113, 114, 115, 116, 117, 118, 119, 120, 121, 122, 123, 124, 42, 195, 196, 197, 5, 198, 29, 31, 27, 199, 200, 201, 202, 40, 41, 203, 87, 88, 89, 204, 205, 206, 207, 47, 48, 49, 50, 51, 52, 53, 54, 55, 56, 57, 58, 59, 60, 61, 62, 63, 64, 65, 66, 67, 68, 69, 70, 71, 72, 73, 74, 75, 76, 77, 78, 79, 80, 81, 82, 83, 84, 85, 86, 221, 222, 223, 224, 225, 226, 227, 228, 229, 230, 231, 232, 208, 209, 210, 211, 212, 213, 214, 215, 216, 217, 218, 219, 220, 233, 234, 235] (by decide +kernel) (by decide +kernel)
set_option maxRecDepth 20000 in
theorem gX3_call_X3_joinLine : GoodIn wsX3_call (wsV RX3 105 RX3 yX3_joinLine wsX3_joinLine) := goodIn_app (goodIn_of _ (by decide +kernel)) ggX3_call_X3_joinLine
theorem dX3_call_0 : decode cX3_call 0 = .ok (.iload_n 1, 1) := by decide +kernel
theorem dX3_call_1 : decode cX3_call 1 = .ok (.ifCond .lt 12, 3) := by decide +kernel
theorem dX3_call_4 : decode cX3_call 4 = .ok (.iload_n 2, 1) := by decide +kernel
theorem dX3_call_5 : decode cX3_call 5 = .ok (.ifCond .lt 8, 3) := by decide +kernel
theorem dX3_call_8 : decode cX3_call 8 = .ok (.iload_n 3, 1) := by decide +kernel
theorem dX3_call_9 : decode cX3_call 9 = .ok (.iconst 1, 1) := by decide +kernel
theorem dX3_call_10 : decode cX3_call 10 = .ok (.if_icmp .ge 10, 3) := by decide +kernel
theorem dX3_call_13 : decode cX3_call 13 = .ok (.aload_n 0, 1) := by decide +kernel
theorem dX3_call_14 : decode cX3_call 14 = .ok (.bipush (-4), 2) := by decide +kernel
theorem dX3_call_16 : decode cX3_call 16 = .ok (.invokevirtual 39, 3) := by decide +kernel
theorem dX3_call_19 : decode cX3_call 19 = .ok (.ireturn, 1) := by decide +kernel
theorem dX3_call_20 : decode cX3_call 20 = .ok (.iload_n 1, 1) := by decide +kernel
theorem dX3_call_21 : decode cX3_call 21 = .ok (.ldc 92, 2) := by decide +kernel
theorem dX3_call_23 : decode cX3_call 23 = .ok (.if_icmp .gt 28, 3) := by decide +kernel
theorem dX3_call_26 : decode cX3_call 26 = .ok (.iload_n 2, 1) := by decide +kernel
theorem dX3_call_27 : decode cX3_call 27 = .ok (.iconst 3, 1) := by decide +kernel
theorem dX3_call_28 : decode cX3_call 28 = .ok (.if_icmp .gt 23, 3) := by decide +kernel
theorem dX3_call_31 : decode cX3_call 31 = .ok (.iload_n 3, 1) := by decide +kernel
theorem dX3_call_32 : decode cX3_call 32 = .ok (.sipush 2000, 3) := by decide +kernel
theorem dX3_call_35 : decode cX3_call 35 = .ok (.if_icmp .gt 16, 3) := by decide +kernel
theorem dX3_call_38 : decode cX3_call 38 = .ok (.aload_n 0, 1) := by decide +kernel
theorem dX3_call_39 : decode cX3_call 39 = .ok (.getfield 16, 3) := by decide +kernel
theorem dX3_call_42 : decode cX3_call 42 = .ok (.invokevirtual 43, 3) := by decide +kernel
theorem dX3_call_45 : decode cX3_call 45 = .ok (.sipush 200, 3) := by decide +kernel
theorem dX3_call_48 : decode cX3_call 48 = .ok (.if_icmp .lt 10, 3) := by decide +kernel
theorem dX3_call_51 : decode cX3_call 51 = .ok (.aload_n 0, 1) := by decide +kernel
theorem dX3_call_52 : decode cX3_call 52 = .ok (.bipush (-6), 2) := by decide +kernel
theorem dX3_call_54 : decode cX3_call 54 = .ok (.invokevirtual 39, 3) := by decide +kernel
theorem dX3_call_57 : decode cX3_call 57 = .ok (.ireturn, 1) := by decide +kernel
theorem dX3_call_58 : decode cX3_call 58 = .ok (.new 93, 3) := by decide +kernel
theorem dX3_call_61 : decode cX3_call 61 = .ok (.dup, 1) := by decide +kernel
theorem dX3_call_62 : decode cX3_call 62 = .ok (.aload_n 0, 1) := by decide +kernel
theorem dX3_call_63 : decode cX3_call 63 = .ok (.getfield 16, 3) := by decide +kernel
theorem dX3_call_66 : decode cX3_call 66 = .ok (.invokevirtual 43, 3) := by decide +kernel
theorem dX3_call_69 : decode cX3_call 69 = .ok (.iload_n 1, 1) := by decide +kernel
theorem dX3_call_70 : decode cX3_call 70 = .ok (.iload_n 2, 1) := by decide +kernel
theorem dX3_call_71 : decode cX3_call 71 = .ok (.aload_n 0, 1) := by decide +kernel
theorem dX3_call_72 : decode cX3_call 72 = .ok (.getfield 95, 3) := by decide +kernel
theorem dX3_call_75 : decode cX3_call 75 = .ok (.aload_n 0, 1) := by decide +kernel
theorem dX3_call_76 : decode cX3_call 76 = .ok (.getfield 95, 3) := by decide +kernel
theorem dX3_call_79 : decode cX3_call 79 = .ok (.iload_n 3, 1) := by decide +kernel
theorem dX3_call_80 : decode cX3_call 80 = .ok (.iadd, 1) := by decide +kernel
theorem dX3_call_81 : decode cX3_call 81 = .ok (.iload 4, 2) := by decide +kernel
theorem dX3_call_83 : decode cX3_call 83 = .ok (.invokespecial 98, 3) := by decide +kernel
theorem dX3_call_86 : decode cX3_call 86 = .ok (.astore 5, 2) := by decide +kernel
theorem dX3_call_88 : decode cX3_call 88 = .ok (.aload_n 0, 1) := by decide +kernel
theorem dX3_call_89 : decode cX3_call 89 = .ok (.getfield 16, 3) := by decide +kernel
theorem dX3_call_92 : decode cX3_call 92 = .ok (.aload 5, 2) := by decide +kernel
theorem dX3_call_94 : decode cX3_call 94 = .ok (.invokevirtual 52, 3) := by decide +kernel
theorem dX3_call_97 : decode cX3_call 97 = .ok (.pop, 1) := by decide +kernel
theorem dX3_call_98 : decode cX3_call 98 = .ok (.aload_n 0, 1) := by decide +kernel
theorem dX3_call_99 : decode cX3_call 99 = .ok (.getfield 19, 3) := by decide +kernel
theorem dX3_call_102 : decode cX3_call 102 = .ok (.aload 5, 2) := by decide +kernel
theorem dX3_call_104 : decode cX3_call 104 = .ok (.invokevirtual 52, 3) := by decide +kernel
theorem dX3_call_107 : decode cX3_call 107 = .ok (.pop, 1) := by decide +kernel
theorem dX3_call_108 : decode cX3_call 108 = .ok (.aload_n 0, 1) := by decide +kernel
theorem dX3_call_109 : decode cX3_call 109 = .ok (.aload 5, 2) := by decide +kernel
theorem dX3_call_111 : decode cX3_call 111 = .ok (.invokevirtual 101, 3) := by decide +kernel
theorem dX3_call_114 : decode cX3_call 114 = .ok (.ifCond .ne 9, 3) := by decide +kernel
theorem dX3_call_117 : decode cX3_call 117 = .ok (.aload_n 0, 1) := by decide +kernel
theorem dX3_call_118 : decode cX3_call 118 = .ok (.aload 5, 2) := by decide +kernel
theorem dX3_call_120 : decode cX3_call 120 = .ok (.invokevirtual 105, 3) := by decide +kernel
theorem dX3_call_123 : decode cX3_call 123 = .ok (.aload 5, 2) := by decide +kernel
theorem dX3_call_125 : decode cX3_call 125 = .ok (.getfield 109, 3) := by decide +kernel
theorem dX3_call_128 : decode cX3_call 128 = .ok (.ireturn, 1) := by decide +kernel
set_option maxRecDepth 20000 in
theorem ggX3_takeWhatIsOver_Jx4a65c_size_8abf5 : GoodIn wsX3_takeWhatIsOver wsJx4a65c_size_8abf5 := goodIn_r _ [12, 13, 194, 195, 196] (by decide +kernel) (by decide +kernel)
set_option maxRecDepth 20000 in
theorem gX3_takeWhatIsOver_Jx4a65c_size_8abf5 : GoodIn wsX3_takeWhatIsOver (wsV RX3 43 RJx4a65c yJx4a65c_size_8abf5 wsJx4a65c_size_8abf5) := goodIn_app (goodIn_of _ (by decide +kernel)) ggX3_takeWhatIsOver_Jx4a65c_size_8abf5
set_option maxRecDepth 20000 in
theorem ggX3_takeWhatIsOver_Jx4a65c_get_915e3 : GoodIn wsX3_takeWhatIsOver wsJx4a65c_get_915e3 := goodIn_r _ [17, 13, 18, 19, 20, 21, 22, 23, 24, 25, 26, 27, 28, 11, 29, 30, 194, 195, 196] (by decide +kernel) (by decide +kernel)
set_option maxRecDepth 20000 in
theorem gX3_takeWhatIsOver_Jx4a65c_get_915e3 : GoodIn wsX3_takeWhatIsOver (wsV RX3 151 RJx4a65c yJx4a65c_get_915e3 wsJx4a65c_get_915e3) := goodIn_app (goodIn_of _ (by decide +kernel)) ggX3_takeWhatIsOver_Jx4a65c_get_915e3
set_option maxRecDepth 20000 in
theorem ggX3_takeWhatIsOver_X3_takeAnswer : GoodIn wsX3_takeWhatIsOver wsX3_takeAnswer := goodIn_r _ [35, 36, 37, 38, 39, 3, 40, 6, 41, 42, 43, 44, 45, 46, 47, 48, 49, 50, 51, 52, 53, 54, 55, 56, 57, 58, 59, 60, 61, 62, 63, 64, 65, 66, 67, 34, 68, 7, 69, 70, 71, 72, 73, 74, 75, 76, 77, 78, 79, 80, 81, 82, 83, 84, 85, 8, 9, 10, 11, 12, 13, 14, 15, 16, 17, 18, 19, 20, 21, 22, 23, 24, 25, 26, 27, 28, 29, 30, 86, 87, 88, 89, 90, 91, 92, 93, 94, 95, 96, 97, 98, 99, 100, 101, 102, 103, 104, 105, 106, 2, 107, 108, 109, 110, 111, 112, 113, 114, 115, 116, 117, 118, 119, 120, 121, 122, 123, 124, 125, 126, 127, 128, 129, 130, 131, 132, 133, 134, 135, 136, 137, 138, 139, 140, 141, 142, 143, 144, 145, 146, 147, 148, 149, 150, 151, 152, 153, 154, 155, 156, 157, 158, 159, 160, 161, 162, 163, 164, 190, 191, 192, 193, 197, 198, 199, 200, 201, 202, 203, 204, 205, 206, 207, 208, 209, 210, 211, 212, 213, 178, 179, 180, 181, 182, 183, 184, 185, 186, 187, 188, 189, 165, 166, 167, 168, 169, 170, 171, 172, 173, 174, 175, 176, 177, 194, 195, 196] (by decide +kernel) (by decide +kernel)
set_option maxRecDepth 20000 in
theorem gX3_takeWhatIsOver_X3_takeAnswer : GoodIn wsX3_takeWhatIsOver (wsV RX3 259 RX3 yX3_takeAnswer wsX3_takeAnswer) := goodIn_app (goodIn_of _ (by decide +kernel)) ggX3_takeWhatIsOver_X3_takeAnswer
theorem dX3_takeWhatIsOver_0 : decode cX3_takeWhatIsOver 0 = .ok (.iconst 0, 1) := by decide +kernel
theorem dX3_takeWhatIsOver_1 : decode cX3_takeWhatIsOver 1 = .ok (.istore_n 1, 1) := by decide +kernel
theorem dX3_takeWhatIsOver_2 : decode cX3_takeWhatIsOver 2 = .ok (.iload_n 1, 1) := by decide +kernel
theorem dX3_takeWhatIsOver_3 : decode cX3_takeWhatIsOver 3 = .ok (.aload_n 0, 1) := by decide +kernel
theorem dX3_takeWhatIsOver_4 : decode cX3_takeWhatIsOver 4 = .ok (.getfield 19, 3) := by decide +kernel
theorem dX3_takeWhatIsOver_7 : decode cX3_takeWhatIsOver 7 = .ok (.invokevirtual 43, 3) := by decide +kernel
theorem dX3_takeWhatIsOver_10 : decode cX3_takeWhatIsOver 10 = .ok (.if_icmp .ge 85, 3) := by decide +kernel
theorem dX3_takeWhatIsOver_13 : decode cX3_takeWhatIsOver 13 = .ok (.aload_n 0, 1) := by decide +kernel
theorem dX3_takeWhatIsOver_14 : decode cX3_takeWhatIsOver 14 = .ok (.getfield 19, 3) := by decide +kernel
theorem dX3_takeWhatIsOver_17 : decode cX3_takeWhatIsOver 17 = .ok (.iload_n 1, 1) := by decide +kernel
theorem dX3_takeWhatIsOver_18 : decode cX3_takeWhatIsOver 18 = .ok (.invokevirtual 151, 3) := by decide +kernel
theorem dX3_takeWhatIsOver_21 : decode cX3_takeWhatIsOver 21 = .ok (.checkcast 93, 3) := by decide +kernel
theorem dX3_takeWhatIsOver_24 : decode cX3_takeWhatIsOver 24 = .ok (.astore_n 2, 1) := by decide +kernel
theorem dX3_takeWhatIsOver_25 : decode cX3_takeWhatIsOver 25 = .ok (.aload_n 2, 1) := by decide +kernel
theorem dX3_takeWhatIsOver_26 : decode cX3_takeWhatIsOver 26 = .ok (.getfield 247, 3) := by decide +kernel
theorem dX3_takeWhatIsOver_29 : decode cX3_takeWhatIsOver 29 = .ok (.astore_n 3, 1) := by decide +kernel
theorem dX3_takeWhatIsOver_30 : decode cX3_takeWhatIsOver 30 = .ok (.aload_n 2, 1) := by decide +kernel
theorem dX3_takeWhatIsOver_31 : decode cX3_takeWhatIsOver 31 = .ok (.getfield 251, 3) := by decide +kernel
theorem dX3_takeWhatIsOver_34 : decode cX3_takeWhatIsOver 34 = .ok (.astore 4, 2) := by decide +kernel
theorem dX3_takeWhatIsOver_36 : decode cX3_takeWhatIsOver 36 = .ok (.aload_n 3, 1) := by decide +kernel
theorem dX3_takeWhatIsOver_37 : decode cX3_takeWhatIsOver 37 = .ok (.ifnull 20, 3) := by decide +kernel
theorem dX3_takeWhatIsOver_40 : decode cX3_takeWhatIsOver 40 = .ok (.aload_n 3, 1) := by decide +kernel
theorem dX3_takeWhatIsOver_41 : decode cX3_takeWhatIsOver 41 = .ok (.getfield 254, 3) := by decide +kernel
theorem dX3_takeWhatIsOver_44 : decode cX3_takeWhatIsOver 44 = .ok (.aload_n 0, 1) := by decide +kernel
theorem dX3_takeWhatIsOver_45 : decode cX3_takeWhatIsOver 45 = .ok (.getfield 95, 3) := by decide +kernel
theorem dX3_takeWhatIsOver_48 : decode cX3_takeWhatIsOver 48 = .ok (.if_icmp .ne 9, 3) := by decide +kernel
theorem dX3_takeWhatIsOver_51 : decode cX3_takeWhatIsOver 51 = .ok (.aload_n 0, 1) := by decide +kernel
theorem dX3_takeWhatIsOver_52 : decode cX3_takeWhatIsOver 52 = .ok (.aload_n 2, 1) := by decide +kernel
theorem dX3_takeWhatIsOver_53 : decode cX3_takeWhatIsOver 53 = .ok (.aload_n 3, 1) := by decide +kernel
theorem dX3_takeWhatIsOver_54 : decode cX3_takeWhatIsOver 54 = .ok (.invokevirtual 259, 3) := by decide +kernel
theorem dX3_takeWhatIsOver_57 : decode cX3_takeWhatIsOver 57 = .ok (.aload 4, 2) := by decide +kernel
theorem dX3_takeWhatIsOver_59 : decode cX3_takeWhatIsOver 59 = .ok (.ifnull 30, 3) := by decide +kernel
theorem dX3_takeWhatIsOver_62 : decode cX3_takeWhatIsOver 62 = .ok (.aload 4, 2) := by decide +kernel
theorem dX3_takeWhatIsOver_64 : decode cX3_takeWhatIsOver 64 = .ok (.getfield 254, 3) := by decide +kernel
theorem dX3_takeWhatIsOver_67 : decode cX3_takeWhatIsOver 67 = .ok (.aload_n 0, 1) := by decide +kernel
theorem dX3_takeWhatIsOver_68 : decode cX3_takeWhatIsOver 68 = .ok (.getfield 95, 3) := by decide +kernel
theorem dX3_takeWhatIsOver_71 : decode cX3_takeWhatIsOver 71 = .ok (.if_icmp .ne 18, 3) := by decide +kernel
theorem dX3_takeWhatIsOver_74 : decode cX3_takeWhatIsOver 74 = .ok (.aload_n 2, 1) := by decide +kernel
theorem dX3_takeWhatIsOver_75 : decode cX3_takeWhatIsOver 75 = .ok (.getfield 118, 3) := by decide +kernel
theorem dX3_takeWhatIsOver_78 : decode cX3_takeWhatIsOver 78 = .ok (.iconst 1, 1) := by decide +kernel
theorem dX3_takeWhatIsOver_79 : decode cX3_takeWhatIsOver 79 = .ok (.if_icmp .ne 10, 3) := by decide +kernel
theorem dX3_takeWhatIsOver_82 : decode cX3_takeWhatIsOver 82 = .ok (.aload_n 0, 1) := by decide +kernel
theorem dX3_takeWhatIsOver_83 : decode cX3_takeWhatIsOver 83 = .ok (.aload_n 2, 1) := by decide +kernel
theorem dX3_takeWhatIsOver_84 : decode cX3_takeWhatIsOver 84 = .ok (.aload 4, 2) := by decide +kernel
theorem dX3_takeWhatIsOver_86 : decode cX3_takeWhatIsOver 86 = .ok (.invokevirtual 259, 3) := by decide +kernel
theorem dX3_takeWhatIsOver_89 : decode cX3_takeWhatIsOver 89 = .ok (.iinc 1 1, 3) := by decide +kernel
theorem dX3_takeWhatIsOver_92 : decode cX3_takeWhatIsOver 92 = .ok (.goto (-90), 3) := by decide +kernel
theorem dX3_takeWhatIsOver_95 : decode cX3_takeWhatIsOver 95 = .ok (.return_, 1) := by decide +kernel
set_option maxRecDepth 20000 in
theorem ggX3_meetDues_Jx4a65c_size_8abf5 : GoodIn wsX3_meetDues wsJx4a65c_size_8abf5 := goodIn_r _ [10, 11, 129, 130, 131] (by decide +kernel) (by decide +kernel)
set_option maxRecDepth 20000 in
theorem gX3_meetDues_Jx4a65c_size_8abf5 : GoodIn wsX3_meetDues (wsV RX3 43 RJx4a65c yJx4a65c_size_8abf5 wsJx4a65c_size_8abf5) := goodIn_app (goodIn_of _ (by decide +kernel)) ggX3_meetDues_Jx4a65c_size_8abf5
set_option maxRecDepth 20000 in
theorem ggX3_meetDues_Jx4a65c_get_915e3 : GoodIn wsX3_meetDues wsJx4a65c_get_915e3 := goodIn_r _ [15, 11, 16, 17, 18, 19, 20, 21, 22, 23, 24, 25, 26, 9, 27, 28, 129, 130, 131] (by decide +kernel) (by decide +kernel)
set_option maxRecDepth 20000 in
theorem gX3_meetDues_Jx4a65c_get_915e3 : GoodIn wsX3_meetDues (wsV RX3 151 RJx4a65c yJx4a65c_get_915e3 wsJx4a65c_get_915e3) := goodIn_app (goodIn_of _ (by decide +kernel)) ggX3_meetDues_Jx4a65c_get_915e3
set_option maxRecDepth 20000 in
theorem ggX3_meetDues_X3_failByDue : GoodIn wsX3_meetDues wsX3_failByDue := goodIn_r _ [33, 34, 35, 36, 37, 38, 39, 40, 41, 42, 43, 44, 45, 46, 47, 48, 49, 50, 51, 52, 32, 53, 54, 55, 56, 57, 4, 58, 59, 60, 61, 62, 63, 6, 7, 8, 9, 10, 11, 12, 13, 14, 15, 16, 17, 18, 19, 20, 21, 22, 23, 24, 25, 26, 27, 28, 64, 65, 66, 67, 68, 69, 70, 71, 72, 73, 74, 75, 76, 77, 78, 79, 80, 81, 5, 82, 83, 117, 118, 119, 120, 121, 122, 123, 124, 125, 126, 127, 128, 132, 133, 134, 135, 136, 137, 138, 139, 140, 141, 142, 143, 144, 145, 146, 147, 148, 149, 150, 151, 152, 104, 105, 106, 107, 108, 109, 110, 111, 112, 113, 114, 115, 116, 129, 130, 131] (by decide +kernel) (by decide +kernel)
set_option maxRecDepth 20000 in
theorem gX3_meetDues_X3_failByDue : GoodIn wsX3_meetDues (wsV RX3 303 RX3 yX3_failByDue wsX3_failByDue) := goodIn_app (goodIn_of _ (by decide +kernel)) ggX3_meetDues_X3_failByDue
set_option maxRecDepth 20000 in
theorem ggX3_meetDues_X3_leaveLine : GoodIn wsX3_meetDues wsX3_leaveLine := goodIn_r _ [87, 88, 2, 89, 6, 7, 8, 9, 10, 11, 12, 13, 14, 15, 16, 17, 18, 19, 20, 21, 22, 23, 24, 25, 26, 27, 28, 90, 91, 92, 93, 94, 95, 96, 97, 98, 99, 100, 101, 102, 103, 104, 105, 106, 107, 108, 109, 110, 111, 112, 113, 114, 115, 116, 117, 118, 119, 120, 121, 122, 123, 124, 125, 126, 127, 128, 129, 130, 131] (by decide +kernel) (by decide +kernel)
set_option maxRecDepth 20000 in
theorem gX3_meetDues_X3_leaveLine : GoodIn wsX3_meetDues (wsV RX3 121 RX3 yX3_leaveLine wsX3_leaveLine) := goodIn_app (goodIn_of _ (by decide +kernel)) ggX3_meetDues_X3_leaveLine
set_option maxRecDepth 20000 in
theorem ggX3_meetDues_X3_end : GoodIn wsX3_meetDues wsX3_end := goodIn_r _ [81, 5, 4, 82, 83, 117, 118, 119, 120, 121, 122, 123, 124, 125, 126, 127, 128, 104, 105, 106, 107, 108, 109, 110, 111, 112, 113, 114, 115, 116] (by decide +kernel) (by decide +kernel)
set_option maxRecDepth 20000 in
theorem gX3_meetDues_X3_end : GoodIn wsX3_meetDues (wsV RX3 127 RX3 yX3_end wsX3_end) := goodIn_app (goodIn_of _ (by decide +kernel)) ggX3_meetDues_X3_end
theorem dX3_meetDues_0 : decode cX3_meetDues 0 = .ok (.iconst 0, 1) := by decide +kernel
theorem dX3_meetDues_1 : decode cX3_meetDues 1 = .ok (.istore_n 1, 1) := by decide +kernel
theorem dX3_meetDues_2 : decode cX3_meetDues 2 = .ok (.iload_n 1, 1) := by decide +kernel
theorem dX3_meetDues_3 : decode cX3_meetDues 3 = .ok (.aload_n 0, 1) := by decide +kernel
theorem dX3_meetDues_4 : decode cX3_meetDues 4 = .ok (.getfield 19, 3) := by decide +kernel
theorem dX3_meetDues_7 : decode cX3_meetDues 7 = .ok (.invokevirtual 43, 3) := by decide +kernel
theorem dX3_meetDues_10 : decode cX3_meetDues 10 = .ok (.if_icmp .ge 69, 3) := by decide +kernel
theorem dX3_meetDues_13 : decode cX3_meetDues 13 = .ok (.aload_n 0, 1) := by decide +kernel
theorem dX3_meetDues_14 : decode cX3_meetDues 14 = .ok (.getfield 19, 3) := by decide +kernel
theorem dX3_meetDues_17 : decode cX3_meetDues 17 = .ok (.iload_n 1, 1) := by decide +kernel
theorem dX3_meetDues_18 : decode cX3_meetDues 18 = .ok (.invokevirtual 151, 3) := by decide +kernel
theorem dX3_meetDues_21 : decode cX3_meetDues 21 = .ok (.checkcast 93, 3) := by decide +kernel
theorem dX3_meetDues_24 : decode cX3_meetDues 24 = .ok (.astore_n 2, 1) := by decide +kernel
theorem dX3_meetDues_25 : decode cX3_meetDues 25 = .ok (.aload_n 2, 1) := by decide +kernel
theorem dX3_meetDues_26 : decode cX3_meetDues 26 = .ok (.getfield 287, 3) := by decide +kernel
theorem dX3_meetDues_29 : decode cX3_meetDues 29 = .ok (.aload_n 0, 1) := by decide +kernel
theorem dX3_meetDues_30 : decode cX3_meetDues 30 = .ok (.getfield 95, 3) := by decide +kernel
theorem dX3_meetDues_33 : decode cX3_meetDues 33 = .ok (.if_icmp .eq 6, 3) := by decide +kernel
theorem dX3_meetDues_36 : decode cX3_meetDues 36 = .ok (.goto 37, 3) := by decide +kernel
theorem dX3_meetDues_39 : decode cX3_meetDues 39 = .ok (.aload_n 2, 1) := by decide +kernel
theorem dX3_meetDues_40 : decode cX3_meetDues 40 = .ok (.getfield 118, 3) := by decide +kernel
theorem dX3_meetDues_43 : decode cX3_meetDues 43 = .ok (.iconst 1, 1) := by decide +kernel
theorem dX3_meetDues_44 : decode cX3_meetDues 44 = .ok (.if_icmp .ne 11, 3) := by decide +kernel
theorem dX3_meetDues_47 : decode cX3_meetDues 47 = .ok (.aload_n 0, 1) := by decide +kernel
theorem dX3_meetDues_48 : decode cX3_meetDues 48 = .ok (.aload_n 2, 1) := by decide +kernel
theorem dX3_meetDues_49 : decode cX3_meetDues 49 = .ok (.invokevirtual 303, 3) := by decide +kernel
theorem dX3_meetDues_52 : decode cX3_meetDues 52 = .ok (.goto 21, 3) := by decide +kernel
theorem dX3_meetDues_55 : decode cX3_meetDues 55 = .ok (.aload_n 2, 1) := by decide +kernel
theorem dX3_meetDues_56 : decode cX3_meetDues 56 = .ok (.getfield 118, 3) := by decide +kernel
theorem dX3_meetDues_59 : decode cX3_meetDues 59 = .ok (.ifCond .ne 14, 3) := by decide +kernel
theorem dX3_meetDues_62 : decode cX3_meetDues 62 = .ok (.aload_n 0, 1) := by decide +kernel
theorem dX3_meetDues_63 : decode cX3_meetDues 63 = .ok (.aload_n 2, 1) := by decide +kernel
theorem dX3_meetDues_64 : decode cX3_meetDues 64 = .ok (.invokevirtual 121, 3) := by decide +kernel
theorem dX3_meetDues_67 : decode cX3_meetDues 67 = .ok (.aload_n 0, 1) := by decide +kernel
theorem dX3_meetDues_68 : decode cX3_meetDues 68 = .ok (.aload_n 2, 1) := by decide +kernel
theorem dX3_meetDues_69 : decode cX3_meetDues 69 = .ok (.iconst 4, 1) := by decide +kernel
theorem dX3_meetDues_70 : decode cX3_meetDues 70 = .ok (.invokevirtual 127, 3) := by decide +kernel
theorem dX3_meetDues_73 : decode cX3_meetDues 73 = .ok (.iinc 1 1, 3) := by decide +kernel
theorem dX3_meetDues_76 : decode cX3_meetDues 76 = .ok (.goto (-74), 3) := by decide +kernel
theorem dX3_meetDues_79 : decode cX3_meetDues 79 = .ok (.return_, 1) := by decide +kernel
set_option maxRecDepth 20000 in
theorem ggX3_dropEnded_Jx4a65c_size_8abf5 : GoodIn wsX3_dropEnded wsJx4a65c_size_8abf5 := goodIn_r _ [7, 8, 59, 60, 61] (by decide +kernel) (by decide +kernel)
set_option maxRecDepth 20000 in
theorem gX3_dropEnded_Jx4a65c_size_8abf5 : GoodIn wsX3_dropEnded (wsV RX3 43 RJx4a65c yJx4a65c_size_8abf5 wsJx4a65c_size_8abf5) := goodIn_app (goodIn_of _ (by decide +kernel)) ggX3_dropEnded_Jx4a65c_size_8abf5
set_option maxRecDepth 20000 in
theorem ggX3_dropEnded_Jx4a65c_get_915e3 : GoodIn wsX3_dropEnded wsJx4a65c_get_915e3 := goodIn_r _ [12, 8, 13, 14, 15, 16, 17, 18, 19, 20, 21, 22, 23, 6, 24, 25, 59, 60, 61] (by decide +kernel) (by decide +kernel)
set_option maxRecDepth 20000 in
theorem gX3_dropEnded_Jx4a65c_get_915e3 : GoodIn wsX3_dropEnded (wsV RX3 151 RJx4a65c yJx4a65c_get_915e3 wsJx4a65c_get_915e3) := goodIn_app (goodIn_of _ (by decide +kernel)) ggX3_dropEnded_Jx4a65c_get_915e3
set_option maxRecDepth 20000 in
theorem ggX3_dropEnded_X1_hasEnded : GoodIn wsX3_dropEnded wsX1_hasEnded := goodIn_r _ [30, 31, 62, 63, 64, 65, 66, 67, 68, 69, 70, 71, 72, 73] (by decide +kernel) (by decide +kernel)
set_option maxRecDepth 20000 in
theorem gX3_dropEnded_X1_hasEnded : GoodIn wsX3_dropEnded (wsV RX3 114 RX1 yX1_hasEnded wsX1_hasEnded) := goodIn_app (goodIn_of _ (by decide +kernel)) ggX3_dropEnded_X1_hasEnded
set_option maxRecDepth 20000 in
theorem ggX3_dropEnded_Jx4a65c_remove_915e3 : GoodIn wsX3_dropEnded wsJx4a65c_remove_915e3 := goodIn_r _ [35, 8, 25, 13, 14, 15, 16, 17, 18, 19, 20, 36, 37, 38, 6, 39, 40, 41, 42, 43, 44, 45, 59, 60, 61] (by decide +kernel) (by decide +kernel)
set_option maxRecDepth 20000 in
theorem gX3_dropEnded_Jx4a65c_remove_915e3 : GoodIn wsX3_dropEnded (wsV RX3 223 RJx4a65c yJx4a65c_remove_915e3 wsJx4a65c_remove_915e3) := goodIn_app (goodIn_of _ (by decide +kernel)) ggX3_dropEnded_Jx4a65c_remove_915e3
theorem dX3_dropEnded_0 : decode cX3_dropEnded 0 = .ok (.aload_n 0, 1) := by decide +kernel
theorem dX3_dropEnded_1 : decode cX3_dropEnded 1 = .ok (.getfield 19, 3) := by decide +kernel
theorem dX3_dropEnded_4 : decode cX3_dropEnded 4 = .ok (.invokevirtual 43, 3) := by decide +kernel
theorem dX3_dropEnded_7 : decode cX3_dropEnded 7 = .ok (.iconst 1, 1) := by decide +kernel
theorem dX3_dropEnded_8 : decode cX3_dropEnded 8 = .ok (.isub, 1) := by decide +kernel
theorem dX3_dropEnded_9 : decode cX3_dropEnded 9 = .ok (.istore_n 1, 1) := by decide +kernel
theorem dX3_dropEnded_10 : decode cX3_dropEnded 10 = .ok (.iload_n 1, 1) := by decide +kernel
theorem dX3_dropEnded_11 : decode cX3_dropEnded 11 = .ok (.ifCond .lt 35, 3) := by decide +kernel
theorem dX3_dropEnded_14 : decode cX3_dropEnded 14 = .ok (.aload_n 0, 1) := by decide +kernel
theorem dX3_dropEnded_15 : decode cX3_dropEnded 15 = .ok (.getfield 19, 3) := by decide +kernel
theorem dX3_dropEnded_18 : decode cX3_dropEnded 18 = .ok (.iload_n 1, 1) := by decide +kernel
theorem dX3_dropEnded_19 : decode cX3_dropEnded 19 = .ok (.invokevirtual 151, 3) := by decide +kernel
theorem dX3_dropEnded_22 : decode cX3_dropEnded 22 = .ok (.checkcast 93, 3) := by decide +kernel
theorem dX3_dropEnded_25 : decode cX3_dropEnded 25 = .ok (.invokevirtual 114, 3) := by decide +kernel
theorem dX3_dropEnded_28 : decode cX3_dropEnded 28 = .ok (.ifCond .eq 12, 3) := by decide +kernel
theorem dX3_dropEnded_31 : decode cX3_dropEnded 31 = .ok (.aload_n 0, 1) := by decide +kernel
theorem dX3_dropEnded_32 : decode cX3_dropEnded 32 = .ok (.getfield 19, 3) := by decide +kernel
theorem dX3_dropEnded_35 : decode cX3_dropEnded 35 = .ok (.iload_n 1, 1) := by decide +kernel
theorem dX3_dropEnded_36 : decode cX3_dropEnded 36 = .ok (.invokevirtual 223, 3) := by decide +kernel
theorem dX3_dropEnded_39 : decode cX3_dropEnded 39 = .ok (.pop, 1) := by decide +kernel
theorem dX3_dropEnded_40 : decode cX3_dropEnded 40 = .ok (.iinc 1 (-1), 3) := by decide +kernel
theorem dX3_dropEnded_43 : decode cX3_dropEnded 43 = .ok (.goto (-33), 3) := by decide +kernel
theorem dX3_dropEnded_46 : decode cX3_dropEnded 46 = .ok (.return_, 1) := by decide +kernel
set_option maxRecDepth 20000 in
theorem ggX3_tryThoseOut_Jx4a65c_size_8abf5 : GoodIn wsX3_tryThoseOut wsJx4a65c_size_8abf5 := goodIn_r _ [10, 11, 59, 60, 61] (by decide +kernel) (by decide +kernel)
set_option maxRecDepth 20000 in
theorem gX3_tryThoseOut_Jx4a65c_size_8abf5 : GoodIn wsX3_tryThoseOut (wsV RX3 43 RJx4a65c yJx4a65c_size_8abf5 wsJx4a65c_size_8abf5) := goodIn_app (goodIn_of _ (by decide +kernel)) ggX3_tryThoseOut_Jx4a65c_size_8abf5
set_option maxRecDepth 20000 in
theorem ggX3_tryThoseOut_Jx4a65c_get_915e3 : GoodIn wsX3_tryThoseOut wsJx4a65c_get_915e3 := goodIn_r _ [15, 11, 16, 17, 18, 19, 20, 21, 22, 23, 24, 25, 26, 9, 27, 28, 59, 60, 61] (by decide +kernel) (by decide +kernel)
set_option maxRecDepth 20000 in
theorem gX3_tryThoseOut_Jx4a65c_get_915e3 : GoodIn wsX3_tryThoseOut (wsV RX3 151 RJx4a65c yJx4a65c_get_915e3 wsJx4a65c_get_915e3) := goodIn_app (goodIn_of _ (by decide +kernel)) ggX3_tryThoseOut_Jx4a65c_get_915e3
theorem dX3_tryThoseOut_0 : decode cX3_tryThoseOut 0 = .ok (.iconst 0, 1) := by decide +kernel
theorem dX3_tryThoseOut_1 : decode cX3_tryThoseOut 1 = .ok (.istore_n 1, 1) := by decide +kernel
theorem dX3_tryThoseOut_2 : decode cX3_tryThoseOut 2 = .ok (.iload_n 1, 1) := by decide +kernel
theorem dX3_tryThoseOut_3 : decode cX3_tryThoseOut 3 = .ok (.aload_n 0, 1) := by decide +kernel
theorem dX3_tryThoseOut_4 : decode cX3_tryThoseOut 4 = .ok (.getfield 10, 3) := by decide +kernel
theorem dX3_tryThoseOut_7 : decode cX3_tryThoseOut 7 = .ok (.invokevirtual 43, 3) := by decide +kernel
theorem dX3_tryThoseOut_10 : decode cX3_tryThoseOut 10 = .ok (.if_icmp .ge 45, 3) := by decide +kernel
theorem dX3_tryThoseOut_13 : decode cX3_tryThoseOut 13 = .ok (.aload_n 0, 1) := by decide +kernel
theorem dX3_tryThoseOut_14 : decode cX3_tryThoseOut 14 = .ok (.getfield 10, 3) := by decide +kernel
theorem dX3_tryThoseOut_17 : decode cX3_tryThoseOut 17 = .ok (.iload_n 1, 1) := by decide +kernel
theorem dX3_tryThoseOut_18 : decode cX3_tryThoseOut 18 = .ok (.invokevirtual 151, 3) := by decide +kernel
theorem dX3_tryThoseOut_21 : decode cX3_tryThoseOut 21 = .ok (.checkcast 47, 3) := by decide +kernel
theorem dX3_tryThoseOut_24 : decode cX3_tryThoseOut 24 = .ok (.astore_n 2, 1) := by decide +kernel
theorem dX3_tryThoseOut_25 : decode cX3_tryThoseOut 25 = .ok (.aload_n 2, 1) := by decide +kernel
theorem dX3_tryThoseOut_26 : decode cX3_tryThoseOut 26 = .ok (.getfield 63, 3) := by decide +kernel
theorem dX3_tryThoseOut_29 : decode cX3_tryThoseOut 29 = .ok (.iconst 1, 1) := by decide +kernel
theorem dX3_tryThoseOut_30 : decode cX3_tryThoseOut 30 = .ok (.if_icmp .ne 19, 3) := by decide +kernel
theorem dX3_tryThoseOut_33 : decode cX3_tryThoseOut 33 = .ok (.aload_n 2, 1) := by decide +kernel
theorem dX3_tryThoseOut_34 : decode cX3_tryThoseOut 34 = .ok (.getfield 306, 3) := by decide +kernel
theorem dX3_tryThoseOut_37 : decode cX3_tryThoseOut 37 = .ok (.aload_n 0, 1) := by decide +kernel
theorem dX3_tryThoseOut_38 : decode cX3_tryThoseOut 38 = .ok (.getfield 95, 3) := by decide +kernel
theorem dX3_tryThoseOut_41 : decode cX3_tryThoseOut 41 = .ok (.if_icmp .ne 8, 3) := by decide +kernel
theorem dX3_tryThoseOut_44 : decode cX3_tryThoseOut 44 = .ok (.aload_n 2, 1) := by decide +kernel
theorem dX3_tryThoseOut_45 : decode cX3_tryThoseOut 45 = .ok (.iconst 2, 1) := by decide +kernel
theorem dX3_tryThoseOut_46 : decode cX3_tryThoseOut 46 = .ok (.putfield 63, 3) := by decide +kernel
theorem dX3_tryThoseOut_49 : decode cX3_tryThoseOut 49 = .ok (.iinc 1 1, 3) := by decide +kernel
theorem dX3_tryThoseOut_52 : decode cX3_tryThoseOut 52 = .ok (.goto (-50), 3) := by decide +kernel
theorem dX3_tryThoseOut_55 : decode cX3_tryThoseOut 55 = .ok (.return_, 1) := by decide +kernel
set_option maxRecDepth 20000 in
theorem ggX3_hedgeSlow_Jx4a65c_size_8abf5 : GoodIn wsX3_hedgeSlow wsJx4a65c_size_8abf5 := goodIn_r _ [15, 16, 114, 115, 116] (by decide +kernel) (by decide +kernel)
set_option maxRecDepth 20000 in
theorem gX3_hedgeSlow_Jx4a65c_size_8abf5 : GoodIn wsX3_hedgeSlow (wsV RX3 43 RJx4a65c yJx4a65c_size_8abf5 wsJx4a65c_size_8abf5) := goodIn_app (goodIn_of _ (by decide +kernel)) ggX3_hedgeSlow_Jx4a65c_size_8abf5
set_option maxRecDepth 20000 in
theorem ggX3_hedgeSlow_Jx4a65c_get_915e3 : GoodIn wsX3_hedgeSlow wsJx4a65c_get_915e3 := goodIn_r _ [20, 16, 21, 22, 23, 24, 25, 26, 27, 28, 29, 30, 31, 14, 32, 33, 114, 115, 116] (by decide +kernel) (by decide +kernel)
set_option maxRecDepth 20000 in
theorem gX3_hedgeSlow_Jx4a65c_get_915e3 : GoodIn wsX3_hedgeSlow (wsV RX3 151 RJx4a65c yJx4a65c_get_915e3 wsJx4a65c_get_915e3) := goodIn_app (goodIn_of _ (by decide +kernel)) ggX3_hedgeSlow_Jx4a65c_get_915e3
set_option maxRecDepth 20000 in
theorem ggX3_hedgeSlow_X3_byFewest : GoodIn wsX3_hedgeSlow wsX3_byFewest := goodIn_r _ [38, 39, 40, 41, 42, 43, 11, 12, 13, 14, 15, 16, 17, 18, 19, 20, 21, 22, 23, 24, 25, 26, 27, 28, 29, 30, 31, 32, 33, 44, 45, 46, 47, 48, 49, 50, 51, 52, 85, 86, 87, 88, 89, 90, 91, 92, 93, 94, 95, 96, 97, 117, 118, 119, 120, 121, 122, 123, 124, 125, 126, 127, 128, 129, 130, 131, 132, 133, 114, 115, 116] (by decide +kernel) (by decide +kernel)
set_option maxRecDepth 20000 in
theorem gX3_hedgeSlow_X3_byFewest : GoodIn wsX3_hedgeSlow (wsV RX3 179 RX3 yX3_byFewest wsX3_byFewest) := goodIn_app (goodIn_of _ (by decide +kernel)) ggX3_hedgeSlow_X3_byFewest
set_option maxRecDepth 20000 in
theorem ggX3_hedgeSlow_X2_takeAsking : GoodIn wsX3_hedgeSlow wsX2_takeAsking := goodIn_r _ [56, 57, 50, 58, 59, 60, 61, 62, 63, 64, 65, 66, 67, 68, 69, 70, 71, 72, 73, 117, 118, 119, 120, 121, 122, 123, 124, 125, 126, 127, 128, 129, 130, 131, 132, 133, 110, 111, 112, 113] (by decide +kernel) (by decide +kernel)
set_option maxRecDepth 20000 in
theorem gX3_hedgeSlow_X2_takeAsking : GoodIn wsX3_hedgeSlow (wsV RX3 209 RX2 yX2_takeAsking wsX2_takeAsking) := goodIn_app (goodIn_of _ (by decide +kernel)) ggX3_hedgeSlow_X2_takeAsking
set_option maxRecDepth 20000 in
theorem ggX3_hedgeSlow_X1_begin : GoodIn wsX3_hedgeSlow wsX1_begin := goodIn_r _ [78, 79, 80, 81, 82, 83, 84, 98, 99, 100, 101, 102, 103, 104, 105, 106, 107, 108, 109, 110, 111, 112, 113, 117, 118, 119, 120, 121, 122, 123, 124, 125, 126, 127, 128, 129, 130, 131, 132, 133] (by decide +kernel) (by decide +kernel)
set_option maxRecDepth 20000 in
theorem gX3_hedgeSlow_X1_begin : GoodIn wsX3_hedgeSlow (wsV RX3 213 RX1 yX1_begin wsX1_begin) := goodIn_app (goodIn_of _ (by decide +kernel)) ggX3_hedgeSlow_X1_begin
theorem dX3_hedgeSlow_0 : decode cX3_hedgeSlow 0 = .ok (.aload_n 0, 1) := by decide +kernel
theorem dX3_hedgeSlow_1 : decode cX3_hedgeSlow 1 = .ok (.getfield 89, 3) := by decide +kernel
theorem dX3_hedgeSlow_4 : decode cX3_hedgeSlow 4 = .ok (.ifCond .ne 4, 3) := by decide +kernel
theorem dX3_hedgeSlow_7 : decode cX3_hedgeSlow 7 = .ok (.return_, 1) := by decide +kernel
theorem dX3_hedgeSlow_8 : decode cX3_hedgeSlow 8 = .ok (.iconst 0, 1) := by decide +kernel
theorem dX3_hedgeSlow_9 : decode cX3_hedgeSlow 9 = .ok (.istore_n 1, 1) := by decide +kernel
theorem dX3_hedgeSlow_10 : decode cX3_hedgeSlow 10 = .ok (.iload_n 1, 1) := by decide +kernel
theorem dX3_hedgeSlow_11 : decode cX3_hedgeSlow 11 = .ok (.aload_n 0, 1) := by decide +kernel
theorem dX3_hedgeSlow_12 : decode cX3_hedgeSlow 12 = .ok (.getfield 19, 3) := by decide +kernel
theorem dX3_hedgeSlow_15 : decode cX3_hedgeSlow 15 = .ok (.invokevirtual 43, 3) := by decide +kernel
theorem dX3_hedgeSlow_18 : decode cX3_hedgeSlow 18 = .ok (.if_icmp .ge 106, 3) := by decide +kernel
theorem dX3_hedgeSlow_21 : decode cX3_hedgeSlow 21 = .ok (.aload_n 0, 1) := by decide +kernel
theorem dX3_hedgeSlow_22 : decode cX3_hedgeSlow 22 = .ok (.getfield 19, 3) := by decide +kernel
theorem dX3_hedgeSlow_25 : decode cX3_hedgeSlow 25 = .ok (.iload_n 1, 1) := by decide +kernel
theorem dX3_hedgeSlow_26 : decode cX3_hedgeSlow 26 = .ok (.invokevirtual 151, 3) := by decide +kernel
theorem dX3_hedgeSlow_29 : decode cX3_hedgeSlow 29 = .ok (.checkcast 93, 3) := by decide +kernel
theorem dX3_hedgeSlow_32 : decode cX3_hedgeSlow 32 = .ok (.astore_n 2, 1) := by decide +kernel
theorem dX3_hedgeSlow_33 : decode cX3_hedgeSlow 33 = .ok (.aload_n 2, 1) := by decide +kernel
theorem dX3_hedgeSlow_34 : decode cX3_hedgeSlow 34 = .ok (.getfield 251, 3) := by decide +kernel
theorem dX3_hedgeSlow_37 : decode cX3_hedgeSlow 37 = .ok (.ifnonnull 10, 3) := by decide +kernel
theorem dX3_hedgeSlow_40 : decode cX3_hedgeSlow 40 = .ok (.aload_n 2, 1) := by decide +kernel
theorem dX3_hedgeSlow_41 : decode cX3_hedgeSlow 41 = .ok (.getfield 247, 3) := by decide +kernel
theorem dX3_hedgeSlow_44 : decode cX3_hedgeSlow 44 = .ok (.goto 4, 3) := by decide +kernel
theorem dX3_hedgeSlow_47 : decode cX3_hedgeSlow 47 = .ok (.aconst_null, 1) := by decide +kernel
theorem dX3_hedgeSlow_48 : decode cX3_hedgeSlow 48 = .ok (.astore_n 3, 1) := by decide +kernel
theorem dX3_hedgeSlow_49 : decode cX3_hedgeSlow 49 = .ok (.aload_n 3, 1) := by decide +kernel
theorem dX3_hedgeSlow_50 : decode cX3_hedgeSlow 50 = .ok (.ifnull 68, 3) := by decide +kernel
theorem dX3_hedgeSlow_53 : decode cX3_hedgeSlow 53 = .ok (.aload_n 2, 1) := by decide +kernel
theorem dX3_hedgeSlow_54 : decode cX3_hedgeSlow 54 = .ok (.getfield 284, 3) := by decide +kernel
theorem dX3_hedgeSlow_57 : decode cX3_hedgeSlow 57 = .ok (.ifCond .eq 61, 3) := by decide +kernel
theorem dX3_hedgeSlow_60 : decode cX3_hedgeSlow 60 = .ok (.aload_n 3, 1) := by decide +kernel
theorem dX3_hedgeSlow_61 : decode cX3_hedgeSlow 61 = .ok (.getfield 309, 3) := by decide +kernel
theorem dX3_hedgeSlow_64 : decode cX3_hedgeSlow 64 = .ok (.aload_n 0, 1) := by decide +kernel
theorem dX3_hedgeSlow_65 : decode cX3_hedgeSlow 65 = .ok (.getfield 89, 3) := by decide +kernel
theorem dX3_hedgeSlow_68 : decode cX3_hedgeSlow 68 = .ok (.iadd, 1) := by decide +kernel
theorem dX3_hedgeSlow_69 : decode cX3_hedgeSlow 69 = .ok (.aload_n 0, 1) := by decide +kernel
theorem dX3_hedgeSlow_70 : decode cX3_hedgeSlow 70 = .ok (.getfield 95, 3) := by decide +kernel
theorem dX3_hedgeSlow_73 : decode cX3_hedgeSlow 73 = .ok (.if_icmp .eq 6, 3) := by decide +kernel
theorem dX3_hedgeSlow_76 : decode cX3_hedgeSlow 76 = .ok (.goto 42, 3) := by decide +kernel
theorem dX3_hedgeSlow_79 : decode cX3_hedgeSlow 79 = .ok (.aload_n 0, 1) := by decide +kernel
theorem dX3_hedgeSlow_80 : decode cX3_hedgeSlow 80 = .ok (.aload_n 2, 1) := by decide +kernel
theorem dX3_hedgeSlow_81 : decode cX3_hedgeSlow 81 = .ok (.getfield 202, 3) := by decide +kernel
theorem dX3_hedgeSlow_84 : decode cX3_hedgeSlow 84 = .ok (.iconst (-1), 1) := by decide +kernel
theorem dX3_hedgeSlow_85 : decode cX3_hedgeSlow 85 = .ok (.invokevirtual 179, 3) := by decide +kernel
theorem dX3_hedgeSlow_88 : decode cX3_hedgeSlow 88 = .ok (.astore 4, 2) := by decide +kernel
theorem dX3_hedgeSlow_90 : decode cX3_hedgeSlow 90 = .ok (.aload 4, 2) := by decide +kernel
theorem dX3_hedgeSlow_92 : decode cX3_hedgeSlow 92 = .ok (.ifnull 26, 3) := by decide +kernel
theorem dX3_hedgeSlow_95 : decode cX3_hedgeSlow 95 = .ok (.aload_n 2, 1) := by decide +kernel
theorem dX3_hedgeSlow_96 : decode cX3_hedgeSlow 96 = .ok (.aload 4, 2) := by decide +kernel
theorem dX3_hedgeSlow_98 : decode cX3_hedgeSlow 98 = .ok (.aload_n 0, 1) := by decide +kernel
theorem dX3_hedgeSlow_99 : decode cX3_hedgeSlow 99 = .ok (.getfield 95, 3) := by decide +kernel
theorem dX3_hedgeSlow_102 : decode cX3_hedgeSlow 102 = .ok (.invokevirtual 209, 3) := by decide +kernel
theorem dX3_hedgeSlow_105 : decode cX3_hedgeSlow 105 = .ok (.invokevirtual 213, 3) := by decide +kernel
theorem dX3_hedgeSlow_108 : decode cX3_hedgeSlow 108 = .ok (.aload_n 0, 1) := by decide +kernel
theorem dX3_hedgeSlow_109 : decode cX3_hedgeSlow 109 = .ok (.dup, 1) := by decide +kernel
theorem dX3_hedgeSlow_110 : decode cX3_hedgeSlow 110 = .ok (.getfield 167, 3) := by decide +kernel
theorem dX3_hedgeSlow_113 : decode cX3_hedgeSlow 113 = .ok (.iconst 1, 1) := by decide +kernel
theorem dX3_hedgeSlow_114 : decode cX3_hedgeSlow 114 = .ok (.iadd, 1) := by decide +kernel
theorem dX3_hedgeSlow_115 : decode cX3_hedgeSlow 115 = .ok (.putfield 167, 3) := by decide +kernel
theorem dX3_hedgeSlow_118 : decode cX3_hedgeSlow 118 = .ok (.iinc 1 1, 3) := by decide +kernel
theorem dX3_hedgeSlow_121 : decode cX3_hedgeSlow 121 = .ok (.goto (-111), 3) := by decide +kernel
theorem dX3_hedgeSlow_124 : decode cX3_hedgeSlow 124 = .ok (.return_, 1) := by decide +kernel
set_option maxRecDepth 20000 in
theorem ggX3_askQueued_Jx4a65c_size_8abf5 : GoodIn wsX3_askQueued wsJx4a65c_size_8abf5 := goodIn_r _ [7, 8, 144, 145, 146] (by decide +kernel) (by decide +kernel)
set_option maxRecDepth 20000 in
theorem gX3_askQueued_Jx4a65c_size_8abf5 : GoodIn wsX3_askQueued (wsV RX3 43 RJx4a65c yJx4a65c_size_8abf5 wsJx4a65c_size_8abf5) := goodIn_app (goodIn_of _ (by decide +kernel)) ggX3_askQueued_Jx4a65c_size_8abf5
set_option maxRecDepth 20000 in
theorem ggX3_askQueued_Jx4a65c_get_915e3 : GoodIn wsX3_askQueued wsJx4a65c_get_915e3 := goodIn_r _ [12, 8, 13, 14, 15, 16, 17, 18, 19, 20, 21, 22, 23, 6, 24, 25, 144, 145, 146] (by decide +kernel) (by decide +kernel)
set_option maxRecDepth 20000 in
theorem gX3_askQueued_Jx4a65c_get_915e3 : GoodIn wsX3_askQueued (wsV RX3 151 RJx4a65c yJx4a65c_get_915e3 wsJx4a65c_get_915e3) := goodIn_app (goodIn_of _ (by decide +kernel)) ggX3_askQueued_Jx4a65c_get_915e3
set_option maxRecDepth 20000 in
theorem ggX3_askQueued_X3_askByRule : GoodIn wsX3_askQueued wsX3_askByRule := goodIn_r _ [30, 31, 32, 33, 34, 35, 36, 37, 29, 38, 39, 40, 41, 42, 43, 44, 45, 46, 3, 4, 5, 6, 7, 8, 9, 10, 11, 12, 13, 14, 15, 16, 17, 18, 19, 20, 21, 22, 23, 24, 25, 47, 48, 49, 50, 51, 52, 53, 54, 55, 56, 57, 58, 59, 60, 61, 62, 63, 64, 65, 66, 67, 68, 69, 70, 71, 72, 73, 74, 75, 76, 77, 78, 79, 80, 81, 82, 83, 84, 85, 86, 87, 88, 89, 90, 91, 92, 93, 94, 95, 96, 97, 98, 99, 100, 101, 102, 103, 104, 105, 106, 107, 108, 109, 110, 111, 112, 113, 114, 115, 116, 147, 148, 149, 150, 151, 152, 153, 154, 155, 156, 157, 158, 131, 132, 133, 134, 135, 136, 137, 138, 139, 140, 141, 142, 143, 159, 160, 161, 162, 163, 164, 165, 166, 167, 168, 169, 170, 171, 172, 173, 174, 175, 144, 145, 146, 176, 177, 178, 179] (by decide +kernel) (by decide +kernel)
set_option maxRecDepth 20000 in
theorem gX3_askQueued_X3_askByRule : GoodIn wsX3_askQueued (wsV RX3 101 RX3 yX3_askByRule wsX3_askByRule) := goodIn_app (goodIn_of _ (by decide +kernel)) ggX3_askQueued_X3_askByRule
set_option maxRecDepth 20000 in
theorem ggX3_askQueued_Jx4a65c_remove_915e3 : GoodIn wsX3_askQueued wsJx4a65c_remove_915e3 := goodIn_r _ [120, 8, 25, 13, 14, 15, 16, 17, 18, 19, 20, 121, 122, 123, 6, 124, 125, 126, 127, 128, 129, 130, 144, 145, 146] (by decide +kernel) (by decide +kernel)
set_option maxRecDepth 20000 in
theorem gX3_askQueued_Jx4a65c_remove_915e3 : GoodIn wsX3_askQueued (wsV RX3 223 RJx4a65c yJx4a65c_remove_915e3 wsJx4a65c_remove_915e3) := goodIn_app (goodIn_of _ (by decide +kernel)) ggX3_askQueued_Jx4a65c_remove_915e3
theorem dX3_askQueued_0 : decode cX3_askQueued 0 = .ok (.aload_n 0, 1) := by decide +kernel
theorem dX3_askQueued_1 : decode cX3_askQueued 1 = .ok (.getfield 22, 3) := by decide +kernel
theorem dX3_askQueued_4 : decode cX3_askQueued 4 = .ok (.invokevirtual 43, 3) := by decide +kernel
theorem dX3_askQueued_7 : decode cX3_askQueued 7 = .ok (.istore_n 1, 1) := by decide +kernel
theorem dX3_askQueued_8 : decode cX3_askQueued 8 = .ok (.iconst 0, 1) := by decide +kernel
theorem dX3_askQueued_9 : decode cX3_askQueued 9 = .ok (.istore_n 2, 1) := by decide +kernel
theorem dX3_askQueued_10 : decode cX3_askQueued 10 = .ok (.iconst 0, 1) := by decide +kernel
theorem dX3_askQueued_11 : decode cX3_askQueued 11 = .ok (.istore_n 3, 1) := by decide +kernel
theorem dX3_askQueued_12 : decode cX3_askQueued 12 = .ok (.iload_n 3, 1) := by decide +kernel
theorem dX3_askQueued_13 : decode cX3_askQueued 13 = .ok (.iload_n 1, 1) := by decide +kernel
theorem dX3_askQueued_14 : decode cX3_askQueued 14 = .ok (.if_icmp .ge 53, 3) := by decide +kernel
theorem dX3_askQueued_17 : decode cX3_askQueued 17 = .ok (.iload_n 2, 1) := by decide +kernel
theorem dX3_askQueued_18 : decode cX3_askQueued 18 = .ok (.aload_n 0, 1) := by decide +kernel
theorem dX3_askQueued_19 : decode cX3_askQueued 19 = .ok (.getfield 22, 3) := by decide +kernel
theorem dX3_askQueued_22 : decode cX3_askQueued 22 = .ok (.invokevirtual 43, 3) := by decide +kernel
theorem dX3_askQueued_25 : decode cX3_askQueued 25 = .ok (.if_icmp .ge 42, 3) := by decide +kernel
theorem dX3_askQueued_28 : decode cX3_askQueued 28 = .ok (.aload_n 0, 1) := by decide +kernel
theorem dX3_askQueued_29 : decode cX3_askQueued 29 = .ok (.aload_n 0, 1) := by decide +kernel
theorem dX3_askQueued_30 : decode cX3_askQueued 30 = .ok (.getfield 22, 3) := by decide +kernel
theorem dX3_askQueued_33 : decode cX3_askQueued 33 = .ok (.iload_n 2, 1) := by decide +kernel
theorem dX3_askQueued_34 : decode cX3_askQueued 34 = .ok (.invokevirtual 151, 3) := by decide +kernel
theorem dX3_askQueued_37 : decode cX3_askQueued 37 = .ok (.checkcast 93, 3) := by decide +kernel
theorem dX3_askQueued_40 : decode cX3_askQueued 40 = .ok (.invokevirtual 101, 3) := by decide +kernel
theorem dX3_askQueued_43 : decode cX3_askQueued 43 = .ok (.ifCond .eq 15, 3) := by decide +kernel
theorem dX3_askQueued_46 : decode cX3_askQueued 46 = .ok (.aload_n 0, 1) := by decide +kernel
theorem dX3_askQueued_47 : decode cX3_askQueued 47 = .ok (.getfield 22, 3) := by decide +kernel
theorem dX3_askQueued_50 : decode cX3_askQueued 50 = .ok (.iload_n 2, 1) := by decide +kernel
theorem dX3_askQueued_51 : decode cX3_askQueued 51 = .ok (.invokevirtual 223, 3) := by decide +kernel
theorem dX3_askQueued_54 : decode cX3_askQueued 54 = .ok (.pop, 1) := by decide +kernel
theorem dX3_askQueued_55 : decode cX3_askQueued 55 = .ok (.goto 6, 3) := by decide +kernel
theorem dX3_askQueued_58 : decode cX3_askQueued 58 = .ok (.iinc 2 1, 3) := by decide +kernel
theorem dX3_askQueued_61 : decode cX3_askQueued 61 = .ok (.iinc 3 1, 3) := by decide +kernel
theorem dX3_askQueued_64 : decode cX3_askQueued 64 = .ok (.goto (-52), 3) := by decide +kernel
theorem dX3_askQueued_67 : decode cX3_askQueued 67 = .ok (.return_, 1) := by decide +kernel
set_option maxRecDepth 20000 in
theorem ggX3_letDrainedGo_Jx4a65c_size_8abf5 : GoodIn wsX3_letDrainedGo wsJx4a65c_size_8abf5 := goodIn_r _ [9, 10, 58, 59, 60] (by decide +kernel) (by decide +kernel)
set_option maxRecDepth 20000 in
theorem gX3_letDrainedGo_Jx4a65c_size_8abf5 : GoodIn wsX3_letDrainedGo (wsV RX3 43 RJx4a65c yJx4a65c_size_8abf5 wsJx4a65c_size_8abf5) := goodIn_app (goodIn_of _ (by decide +kernel)) ggX3_letDrainedGo_Jx4a65c_size_8abf5
set_option maxRecDepth 20000 in
theorem ggX3_letDrainedGo_Jx4a65c_get_915e3 : GoodIn wsX3_letDrainedGo wsJx4a65c_get_915e3 := goodIn_r _ [14, 10, 15, 16, 17, 18, 19, 20, 21, 22, 23, 24, 25, 8, 26, 27, 58, 59, 60] (by decide +kernel) (by decide +kernel)
set_option maxRecDepth 20000 in
theorem gX3_letDrainedGo_Jx4a65c_get_915e3 : GoodIn wsX3_letDrainedGo (wsV RX3 151 RJx4a65c yJx4a65c_get_915e3 wsJx4a65c_get_915e3) := goodIn_app (goodIn_of _ (by decide +kernel)) ggX3_letDrainedGo_Jx4a65c_get_915e3
theorem dX3_letDrainedGo_0 : decode cX3_letDrainedGo 0 = .ok (.iconst 0, 1) := by decide +kernel
theorem dX3_letDrainedGo_1 : decode cX3_letDrainedGo 1 = .ok (.istore_n 1, 1) := by decide +kernel
theorem dX3_letDrainedGo_2 : decode cX3_letDrainedGo 2 = .ok (.iload_n 1, 1) := by decide +kernel
theorem dX3_letDrainedGo_3 : decode cX3_letDrainedGo 3 = .ok (.aload_n 0, 1) := by decide +kernel
theorem dX3_letDrainedGo_4 : decode cX3_letDrainedGo 4 = .ok (.getfield 10, 3) := by decide +kernel
theorem dX3_letDrainedGo_7 : decode cX3_letDrainedGo 7 = .ok (.invokevirtual 43, 3) := by decide +kernel
theorem dX3_letDrainedGo_10 : decode cX3_letDrainedGo 10 = .ok (.if_icmp .ge 41, 3) := by decide +kernel
theorem dX3_letDrainedGo_13 : decode cX3_letDrainedGo 13 = .ok (.aload_n 0, 1) := by decide +kernel
theorem dX3_letDrainedGo_14 : decode cX3_letDrainedGo 14 = .ok (.getfield 10, 3) := by decide +kernel
theorem dX3_letDrainedGo_17 : decode cX3_letDrainedGo 17 = .ok (.iload_n 1, 1) := by decide +kernel
theorem dX3_letDrainedGo_18 : decode cX3_letDrainedGo 18 = .ok (.invokevirtual 151, 3) := by decide +kernel
theorem dX3_letDrainedGo_21 : decode cX3_letDrainedGo 21 = .ok (.checkcast 47, 3) := by decide +kernel
theorem dX3_letDrainedGo_24 : decode cX3_letDrainedGo 24 = .ok (.astore_n 2, 1) := by decide +kernel
theorem dX3_letDrainedGo_25 : decode cX3_letDrainedGo 25 = .ok (.aload_n 2, 1) := by decide +kernel
theorem dX3_letDrainedGo_26 : decode cX3_letDrainedGo 26 = .ok (.getfield 63, 3) := by decide +kernel
theorem dX3_letDrainedGo_29 : decode cX3_letDrainedGo 29 = .ok (.iconst 3, 1) := by decide +kernel
theorem dX3_letDrainedGo_30 : decode cX3_letDrainedGo 30 = .ok (.if_icmp .ne 15, 3) := by decide +kernel
theorem dX3_letDrainedGo_33 : decode cX3_letDrainedGo 33 = .ok (.aload_n 2, 1) := by decide +kernel
theorem dX3_letDrainedGo_34 : decode cX3_letDrainedGo 34 = .ok (.getfield 80, 3) := by decide +kernel
theorem dX3_letDrainedGo_37 : decode cX3_letDrainedGo 37 = .ok (.ifCond .ne 8, 3) := by decide +kernel
theorem dX3_letDrainedGo_40 : decode cX3_letDrainedGo 40 = .ok (.aload_n 2, 1) := by decide +kernel
theorem dX3_letDrainedGo_41 : decode cX3_letDrainedGo 41 = .ok (.iconst 4, 1) := by decide +kernel
theorem dX3_letDrainedGo_42 : decode cX3_letDrainedGo 42 = .ok (.putfield 63, 3) := by decide +kernel
theorem dX3_letDrainedGo_45 : decode cX3_letDrainedGo 45 = .ok (.iinc 1 1, 3) := by decide +kernel
theorem dX3_letDrainedGo_48 : decode cX3_letDrainedGo 48 = .ok (.goto (-46), 3) := by decide +kernel
theorem dX3_letDrainedGo_51 : decode cX3_letDrainedGo 51 = .ok (.return_, 1) := by decide +kernel
set_option maxRecDepth 20000 in
theorem ggX3_passTick_X3_takeWhatIsOver : GoodIn wsX3_passTick wsX3_takeWhatIsOver := goodIn_r _ [6, 7, 8, 9, 10, 11, 1, 12, 13, 14, 15, 16, 17, 18, 19, 20, 21, 22, 23, 24, 25, 26, 27, 28, 29, 30, 31, 32, 33, 34, 35, 36, 37, 38, 5, 39, 40, 41, 42, 43, 44, 45, 46, 47, 48, 49, 50, 51, 52, 53, 54, 55, 56, 57, 58, 59, 60, 61, 62, 63, 64, 65, 66, 67, 68, 69, 70, 71, 72, 73, 74, 75, 76, 77, 78, 79, 80, 81, 82, 83, 84, 85, 86, 87, 88, 89, 90, 91, 92, 93, 94, 95, 96, 97, 98, 99, 100, 101, 102, 103, 104, 105, 106, 107, 108, 109, 110, 111, 112, 113, 114, 115, 116, 117, 118, 119, 120, 121, 122, 123, 124, 125, 126, 127, 128, 129, 130, 131, 132, 133, 134, 135, 136, 137, 138, 139, 140, 141, 142, 143, 144, 145, 146, 147, 148, 149, 150, 151, 152, 153, 154, 155, 156, 157, 158, 159, 160, 161, 162, 163, 164, 165, 166, 167, 168, 295, 296, 297, 298, 299, 300, 301, 302, 303, 304, 305, 306, 307, 308, 309, 310, 311, 312, 313, 314, 315, 316, 317, 318, 319, 320, 321, 322, 323, 324, 325, 326, 327, 328, 329, 330, 331, 332, 333, 334, 335, 336, 337, 338, 339, 340, 341, 342, 343] (by decide +kernel) (by decide +kernel)
set_option maxRecDepth 20000 in
theorem gX3_passTick_X3_takeWhatIsOver : GoodIn wsX3_passTick (wsV RX3 229 RX3 yX3_takeWhatIsOver wsX3_takeWhatIsOver) := goodIn_app (goodIn_of _ (by decide +kernel)) ggX3_passTick_X3_takeWhatIsOver
set_option maxRecDepth 20000 in
theorem ggX3_passTick_X3_meetDues : GoodIn wsX3_passTick wsX3_meetDues := goodIn_r _ [172, 7, 8, 45, 1, 12, 13, 14, 15, 16, 17, 18, 19, 20, 21, 22, 23, 24, 25, 26, 27, 28, 29, 30, 31, 32, 33, 34, 35, 173, 174, 175, 5, 176, 9, 10, 41, 56, 57, 58, 59, 60, 61, 62, 63, 64, 65, 66, 67, 68, 76, 77, 78, 79, 80, 81, 82, 83, 84, 85, 86, 87, 88, 89, 90, 91, 92, 50, 93, 55, 54, 94, 95, 96, 97, 98, 99, 53, 69, 70, 71, 72, 73, 74, 177, 178, 179, 180, 110, 181, 182, 183, 184, 185, 186, 187, 188, 189, 122, 123, 124, 125, 126, 127, 295, 296, 297, 298, 299, 300, 301, 302, 303, 304, 305, 306, 307, 308, 309, 310, 311, 312, 313, 314, 315, 316, 317, 318, 319, 324, 325, 326, 320, 321, 322, 323, 327, 328, 329, 330, 331, 332, 333, 334, 335, 336, 337, 338, 339, 340, 341, 342, 343] (by decide +kernel) (by decide +kernel)
set_option maxRecDepth 20000 in
theorem gX3_passTick_X3_meetDues : GoodIn wsX3_passTick (wsV RX3 232 RX3 yX3_meetDues wsX3_meetDues) := goodIn_app (goodIn_of _ (by decide +kernel)) ggX3_passTick_X3_meetDues
set_option maxRecDepth 20000 in
theorem ggX3_passTick_X3_dropEnded : GoodIn wsX3_passTick wsX3_dropEnded := goodIn_r _ [193, 7, 8, 13, 14, 15, 16, 17, 18, 19, 20, 21, 22, 23, 24, 25, 26, 27, 28, 29, 30, 31, 32, 33, 34, 35, 194, 195, 196, 59, 197, 198, 182, 183, 184, 185, 186, 187, 188, 189, 122, 123, 124, 125, 126, 127, 295, 296, 297, 298, 299, 300, 301, 302, 303, 304, 305, 306, 307, 324, 325, 326, 308, 309, 310, 311, 312, 313, 314, 315, 316, 317, 318, 319] (by decide +kernel) (by decide +kernel)
set_option maxRecDepth 20000 in
theorem gX3_passTick_X3_dropEnded : GoodIn wsX3_passTick (wsV RX3 131 RX3 yX3_dropEnded wsX3_dropEnded) := goodIn_app (goodIn_of _ (by decide +kernel)) ggX3_passTick_X3_dropEnded
set_option maxRecDepth 20000 in
theorem ggX3_passTick_X3_tryThoseOut : GoodIn wsX3_passTick wsX3_tryThoseOut := goodIn_r _ [202, 88, 89, 82, 203, 1, 13, 14, 15, 16, 17, 18, 19, 20, 21, 22, 23, 24, 25, 26, 27, 28, 29, 30, 31, 32, 33, 34, 35, 295, 296, 297, 298, 299, 300, 301, 302, 303, 304, 305, 306, 307, 327, 328, 329, 330, 331, 332, 333, 334, 335, 336, 337, 338, 339, 340, 341, 342, 343, 324, 325, 326] (by decide +kernel) (by decide +kernel)
set_option maxRecDepth 20000 in
theorem gX3_passTick_X3_tryThoseOut : GoodIn wsX3_passTick (wsV RX3 235 RX3 yX3_tryThoseOut wsX3_tryThoseOut) := goodIn_app (goodIn_of _ (by decide +kernel)) ggX3_passTick_X3_tryThoseOut
set_option maxRecDepth 20000 in
theorem ggX3_passTick_X3_hedgeSlow : GoodIn wsX3_passTick wsX3_hedgeSlow := goodIn_r _ [207, 208, 7, 8, 10, 9, 44, 209, 1, 210, 211, 13, 14, 15, 16, 17, 18, 19, 20, 21, 22, 23, 24, 25, 26, 27, 28, 29, 30, 31, 32, 33, 34, 35, 212, 213, 214, 5, 215, 88, 89, 216, 217, 218, 219, 220, 221, 50, 222, 223, 224, 225, 55, 226, 227, 228, 229, 230, 231, 232, 233, 234, 235, 236, 237, 238, 239, 240, 241, 242, 243, 244, 245, 246, 247, 248, 249, 59, 250, 62, 61, 251, 67, 252, 198, 295, 296, 297, 298, 299, 300, 301, 302, 303, 304, 305, 306, 307, 308, 309, 310, 311, 312, 313, 314, 315, 316, 317, 318, 319, 320, 321, 322, 323, 324, 325, 326, 327, 328, 329, 330, 331, 332, 333, 334, 335, 336, 337, 338, 339, 340, 341, 342, 343] (by decide +kernel) (by decide +kernel)
set_option maxRecDepth 20000 in
theorem gX3_passTick_X3_hedgeSlow : GoodIn wsX3_passTick (wsV RX3 238 RX3 yX3_hedgeSlow wsX3_hedgeSlow) := goodIn_app (goodIn_of _ (by decide +kernel)) ggX3_passTick_X3_hedgeSlow
set_option maxRecDepth 20000 in
theorem ggX3_passTick_X3_askQueued : GoodIn wsX3_passTick wsX3_askQueued := goodIn_r _ [256, 110, 8, 13, 14, 15, 16, 17, 18, 19, 20, 21, 22, 23, 24, 25, 26, 27, 28, 29, 30, 31, 32, 33, 34, 35, 257, 258, 259, 5, 260, 261, 210, 262, 1, 263, 264, 265, 266, 267, 268, 269, 270, 88, 89, 271, 218, 219, 220, 221, 50, 222, 223, 224, 225, 55, 272, 273, 274, 275, 276, 277, 278, 279, 280, 281, 95, 96, 97, 98, 282, 283, 284, 285, 286, 212, 213, 214, 215, 216, 217, 287, 288, 289, 290, 226, 227, 228, 229, 230, 231, 232, 233, 234, 235, 236, 237, 238, 239, 240, 241, 242, 243, 244, 245, 246, 247, 248, 249, 59, 250, 62, 61, 251, 67, 252, 198, 182, 183, 184, 185, 186, 187, 188, 189, 122, 123, 124, 125, 126, 127, 295, 296, 297, 298, 299, 300, 301, 302, 303, 304, 305, 306, 307, 324, 325, 326, 308, 309, 310, 311, 312, 313, 314, 315, 316, 317, 318, 319, 327, 328, 329, 330, 331, 332, 333, 334, 335, 336, 337, 338, 339, 340, 341, 342, 343, 320, 321, 322, 323] (by decide +kernel) (by decide +kernel)
set_option maxRecDepth 20000 in
theorem gX3_passTick_X3_askQueued : GoodIn wsX3_passTick (wsV RX3 241 RX3 yX3_askQueued wsX3_askQueued) := goodIn_app (goodIn_of _ (by decide +kernel)) ggX3_passTick_X3_askQueued
set_option maxRecDepth 20000 in
theorem ggX3_passTick_X3_letDrainedGo : GoodIn wsX3_passTick wsX3_letDrainedGo := goodIn_r _ [294, 88, 89, 82, 217, 13, 14, 15, 16, 17, 18, 19, 20, 21, 22, 23, 24, 25, 26, 27, 28, 29, 30, 31, 32, 33, 34, 35, 295, 296, 297, 298, 299, 300, 301, 302, 303, 304, 305, 306, 307, 327, 328, 329, 330, 331, 332, 333, 334, 335, 336, 337, 338, 339, 340, 341, 342, 343, 324, 325, 326] (by decide +kernel) (by decide +kernel)
set_option maxRecDepth 20000 in
theorem gX3_passTick_X3_letDrainedGo : GoodIn wsX3_passTick (wsV RX3 244 RX3 yX3_letDrainedGo wsX3_letDrainedGo) := goodIn_app (goodIn_of _ (by decide +kernel)) ggX3_passTick_X3_letDrainedGo
theorem dX3_passTick_0 : decode cX3_passTick 0 = .ok (.aload_n 0, 1) := by decide +kernel
theorem dX3_passTick_1 : decode cX3_passTick 1 = .ok (.dup, 1) := by decide +kernel
theorem dX3_passTick_2 : decode cX3_passTick 2 = .ok (.getfield 95, 3) := by decide +kernel
theorem dX3_passTick_5 : decode cX3_passTick 5 = .ok (.iconst 1, 1) := by decide +kernel
theorem dX3_passTick_6 : decode cX3_passTick 6 = .ok (.iadd, 1) := by decide +kernel
theorem dX3_passTick_7 : decode cX3_passTick 7 = .ok (.putfield 95, 3) := by decide +kernel
theorem dX3_passTick_10 : decode cX3_passTick 10 = .ok (.aload_n 0, 1) := by decide +kernel
theorem dX3_passTick_11 : decode cX3_passTick 11 = .ok (.invokevirtual 229, 3) := by decide +kernel
theorem dX3_passTick_14 : decode cX3_passTick 14 = .ok (.aload_n 0, 1) := by decide +kernel
theorem dX3_passTick_15 : decode cX3_passTick 15 = .ok (.invokevirtual 232, 3) := by decide +kernel
theorem dX3_passTick_18 : decode cX3_passTick 18 = .ok (.aload_n 0, 1) := by decide +kernel
theorem dX3_passTick_19 : decode cX3_passTick 19 = .ok (.invokevirtual 131, 3) := by decide +kernel
theorem dX3_passTick_22 : decode cX3_passTick 22 = .ok (.aload_n 0, 1) := by decide +kernel
theorem dX3_passTick_23 : decode cX3_passTick 23 = .ok (.invokevirtual 235, 3) := by decide +kernel
theorem dX3_passTick_26 : decode cX3_passTick 26 = .ok (.aload_n 0, 1) := by decide +kernel
theorem dX3_passTick_27 : decode cX3_passTick 27 = .ok (.invokevirtual 238, 3) := by decide +kernel
theorem dX3_passTick_30 : decode cX3_passTick 30 = .ok (.aload_n 0, 1) := by decide +kernel
theorem dX3_passTick_31 : decode cX3_passTick 31 = .ok (.invokevirtual 241, 3) := by decide +kernel
theorem dX3_passTick_34 : decode cX3_passTick 34 = .ok (.aload_n 0, 1) := by decide +kernel
theorem dX3_passTick_35 : decode cX3_passTick 35 = .ok (.invokevirtual 244, 3) := by decide +kernel
theorem dX3_passTick_38 : decode cX3_passTick 38 = .ok (.return_, 1) := by decide +kernel
set_option maxRecDepth 20000 in
theorem ggX3_ticks_X3_faultOf : GoodIn wsX3_ticks wsX3_faultOf := goodIn_r _ [6] (by decide +kernel) (by decide +kernel)
set_option maxRecDepth 20000 in
theorem gX3_ticks_X3_faultOf : GoodIn wsX3_ticks (va_wsS RX3 72 yX3_faultOf wsX3_faultOf) := goodIn_app (goodIn_of _ (by decide +kernel)) ggX3_ticks_X3_faultOf
set_option maxRecDepth 20000 in
theorem ggX3_ticks_X3_refuse : GoodIn wsX3_ticks wsX3_refuse := goodIn_r _ [10, 11, 307, 308, 309, 310, 311, 312, 313, 314, 315, 316, 317, 318, 319] (by decide +kernel) (by decide +kernel)
set_option maxRecDepth 20000 in
theorem gX3_ticks_X3_refuse : GoodIn wsX3_ticks (wsV RX3 39 RX3 yX3_refuse wsX3_refuse) := goodIn_app (goodIn_of _ (by decide +kernel)) ggX3_ticks_X3_refuse
set_option maxRecDepth 20000 in
theorem ggX3_ticks_X3_passTick : GoodIn wsX3_ticks wsX3_passTick := goodIn_r _ [15, 1, 16, 17, 18, 5, 19, 20, 21, 22, 23, 24, 25, 26, 27, 28, 29, 30, 31, 32, 33, 34, 35, 36, 37, 38, 39, 40, 41, 42, 43, 44, 45, 46, 47, 48, 49, 50, 51, 52, 53, 54, 55, 56, 57, 58, 59, 60, 61, 62, 63, 64, 65, 66, 67, 68, 69, 70, 71, 72, 73, 74, 75, 76, 77, 78, 79, 80, 81, 82, 83, 84, 85, 86, 2, 87, 88, 89, 90, 91, 92, 93, 94, 95, 96, 97, 98, 99, 100, 101, 102, 103, 104, 105, 106, 107, 108, 109, 110, 111, 112, 113, 114, 115, 116, 117, 118, 119, 120, 121, 122, 123, 124, 125, 126, 127, 128, 129, 130, 131, 132, 133, 134, 135, 136, 137, 138, 139, 140, 141, 142, 143, 144, 145, 146, 147, 148, 149, 150, 151, 152, 153, 154, 155, 156, 157, 158, 159, 160, 161, 162, 163, 164, 165, 166, 167, 168, 169, 170, 171, 172, 173, 174, 175, 176, 177, 178, 179, 180, 181, 182, 183, 184, 185, 186, 187, 188, 189, 190, 191, 192, 193, 194, 195, 196, 197, 198, 199, 200, 201, 202, 203, 204, 205, 206, 207, 208, 209, 210, 211, 212, 213, 214, 215, 216, 217, 218, 219, 220, 221, 222, 223, 224, 225, 226, 227, 228, 229, 230, 231, 232, 233, 234, 235, 236, 237, 238, 239, 240, 241, 242, 243, 244, 245, 246, 247, 248, 249, 250, 251, 252, 253, 254, 255, 256, 257, 258, 259, 260, 261, 262, 263, 264, 265, 266, 267, 268, 269, 270, 271, 272, 273, 274, 275, 276, 277, 278, 279, 280, 281, 282, 283, 284, 285, 286, 287, 288, 289, 290, 291, 292, 293, 294, 295, 296, 297, 298, 299, 300, 301, 302, 303, 304, 305, 306, 307, 308, 309, 310, 311, 312, 313, 314, 315, 316, 317, 318, 319, 320, 321, 322, 323, 324, 325, 326, 327, 328, 329, 330, 331, 332, 333, 334, 335, 336, 337, 338, 339, 340, 341, 342, 343, 344, 345, 346, 347, 348, 349, 350, 351, 352, 353, 354, 355] (by decide +kernel) (by decide +kernel)
set_option maxRecDepth 20000 in
theorem gX3_ticks_X3_passTick : GoodIn wsX3_ticks (wsV RX3 137 RX3 yX3_passTick wsX3_passTick) := goodIn_app (goodIn_of _ (by decide +kernel)) ggX3_ticks_X3_passTick
theorem dX3_ticks_0 : decode cX3_ticks 0 = .ok (.iload_n 1, 1) := by decide +kernel
theorem dX3_ticks_1 : decode cX3_ticks 1 = .ok (.iconst 1, 1) := by decide +kernel
theorem dX3_ticks_2 : decode cX3_ticks 2 = .ok (.sipush 20000, 3) := by decide +kernel
theorem dX3_ticks_5 : decode cX3_ticks 5 = .ok (.aload_n 0, 1) := by decide +kernel
theorem dX3_ticks_6 : decode cX3_ticks 6 = .ok (.getfield 95, 3) := by decide +kernel
theorem dX3_ticks_9 : decode cX3_ticks 9 = .ok (.isub, 1) := by decide +kernel
theorem dX3_ticks_10 : decode cX3_ticks 10 = .ok (.invokestatic 72, 3) := by decide +kernel
theorem dX3_ticks_13 : decode cX3_ticks 13 = .ok (.istore_n 2, 1) := by decide +kernel
theorem dX3_ticks_14 : decode cX3_ticks 14 = .ok (.iload_n 2, 1) := by decide +kernel
theorem dX3_ticks_15 : decode cX3_ticks 15 = .ok (.ifCond .eq 9, 3) := by decide +kernel
theorem dX3_ticks_18 : decode cX3_ticks 18 = .ok (.aload_n 0, 1) := by decide +kernel
theorem dX3_ticks_19 : decode cX3_ticks 19 = .ok (.iload_n 2, 1) := by decide +kernel
theorem dX3_ticks_20 : decode cX3_ticks 20 = .ok (.invokevirtual 39, 3) := by decide +kernel
theorem dX3_ticks_23 : decode cX3_ticks 23 = .ok (.ireturn, 1) := by decide +kernel
theorem dX3_ticks_24 : decode cX3_ticks 24 = .ok (.aload_n 0, 1) := by decide +kernel
theorem dX3_ticks_25 : decode cX3_ticks 25 = .ok (.getfield 134, 3) := by decide +kernel
theorem dX3_ticks_28 : decode cX3_ticks 28 = .ok (.istore_n 3, 1) := by decide +kernel
theorem dX3_ticks_29 : decode cX3_ticks 29 = .ok (.iconst 0, 1) := by decide +kernel
theorem dX3_ticks_30 : decode cX3_ticks 30 = .ok (.istore 4, 2) := by decide +kernel
theorem dX3_ticks_32 : decode cX3_ticks 32 = .ok (.iload 4, 2) := by decide +kernel
theorem dX3_ticks_34 : decode cX3_ticks 34 = .ok (.iload_n 1, 1) := by decide +kernel
theorem dX3_ticks_35 : decode cX3_ticks 35 = .ok (.if_icmp .ge 13, 3) := by decide +kernel
theorem dX3_ticks_38 : decode cX3_ticks 38 = .ok (.aload_n 0, 1) := by decide +kernel
theorem dX3_ticks_39 : decode cX3_ticks 39 = .ok (.invokevirtual 137, 3) := by decide +kernel
theorem dX3_ticks_42 : decode cX3_ticks 42 = .ok (.iinc 4 1, 3) := by decide +kernel
theorem dX3_ticks_45 : decode cX3_ticks 45 = .ok (.goto (-13), 3) := by decide +kernel
theorem dX3_ticks_48 : decode cX3_ticks 48 = .ok (.aload_n 0, 1) := by decide +kernel
theorem dX3_ticks_49 : decode cX3_ticks 49 = .ok (.getfield 134, 3) := by decide +kernel
theorem dX3_ticks_52 : decode cX3_ticks 52 = .ok (.iload_n 3, 1) := by decide +kernel
theorem dX3_ticks_53 : decode cX3_ticks 53 = .ok (.isub, 1) := by decide +kernel
theorem dX3_ticks_54 : decode cX3_ticks 54 = .ok (.ireturn, 1) := by decide +kernel
