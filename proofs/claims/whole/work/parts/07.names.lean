theorem dX6_lateOn_0 : decode cX6_lateOn 0 = .ok (.aload_n 0, 1) := by decide +kernel
theorem dX6_lateOn_1 : decode cX6_lateOn 1 = .ok (.iload_n 1, 1) := by decide +kernel
theorem dX6_lateOn_2 : decode cX6_lateOn 2 = .ok (.invokevirtual 110, 3) := by decide +kernel
theorem dX6_lateOn_5 : decode cX6_lateOn 5 = .ok (.aload_n 0, 1) := by decide +kernel
theorem dX6_lateOn_6 : decode cX6_lateOn 6 = .ok (.getfield 9, 3) := by decide +kernel
theorem dX6_lateOn_9 : decode cX6_lateOn 9 = .ok (.iconst 2, 1) := by decide +kernel
theorem dX6_lateOn_10 : decode cX6_lateOn 10 = .ok (.iaload, 1) := by decide +kernel
theorem dX6_lateOn_11 : decode cX6_lateOn 11 = .ok (.istore_n 2, 1) := by decide +kernel
theorem dX6_lateOn_12 : decode cX6_lateOn 12 = .ok (.aload_n 0, 1) := by decide +kernel
theorem dX6_lateOn_13 : decode cX6_lateOn 13 = .ok (.invokevirtual 121, 3) := by decide +kernel
theorem dX6_lateOn_16 : decode cX6_lateOn 16 = .ok (.iload_n 2, 1) := by decide +kernel
theorem dX6_lateOn_17 : decode cX6_lateOn 17 = .ok (.ireturn, 1) := by decide +kernel
set_option maxRecDepth 20000 in
theorem ggX6_later_X6_in : GoodIn wsX6_later wsX6_in := goodIn_r _ [6] (by decide +kernel) (by decide +kernel)
set_option maxRecDepth 20000 in
theorem gX6_later_X6_in : GoodIn wsX6_later (va_wsS RX6 41 yX6_in wsX6_in) := goodIn_app (goodIn_of _ (by decide +kernel)) ggX6_later_X6_in
set_option maxRecDepth 20000 in
theorem ggX6_later_X6_finds : GoodIn wsX6_later wsX6_finds := goodIn_r _ [10, 11, 1, 85, 86, 87, 88, 89, 90, 91, 92, 93, 94, 95, 96, 97, 98, 99, 100] (by decide +kernel) (by decide +kernel)
set_option maxRecDepth 20000 in
theorem gX6_later_X6_finds : GoodIn wsX6_later (wsV RX6 37 RX6 yX6_finds wsX6_finds) := goodIn_app (goodIn_of _ (by decide +kernel)) ggX6_later_X6_finds
set_option maxRecDepth 20000 in
theorem ggX6_later_X6_thinks : GoodIn wsX6_later wsX6_thinks := goodIn_r _ [15, 2, 16, 17, 18, 5, 19, 85, 86, 87, 88, 89, 90, 91, 92, 93, 94, 95, 96, 97, 98, 99, 100] (by decide +kernel) (by decide +kernel)
set_option maxRecDepth 20000 in
theorem gX6_later_X6_thinks : GoodIn wsX6_later (wsV RX6 118 RX6 yX6_thinks wsX6_thinks) := goodIn_app (goodIn_of _ (by decide +kernel)) ggX6_later_X6_thinks
set_option maxRecDepth 20000 in
theorem ggX6_later_X6_lateOn : GoodIn wsX6_later wsX6_lateOn := goodIn_r _ [23, 2, 24, 25, 26, 5, 27, 28, 29, 30, 31, 32, 33, 34, 35, 36, 37, 38, 39, 40, 41, 42, 43, 44, 45, 46, 47, 48, 49, 50, 51, 52, 53, 54, 55, 56, 57, 58, 59, 60, 61, 62, 63, 64, 65, 66, 67, 68, 69, 70, 71, 72, 73, 74, 75, 76, 77, 78, 79, 16, 17, 18, 19, 85, 86, 87, 88, 89, 90, 91, 92, 93, 94, 95, 96, 97, 98, 99, 100] (by decide +kernel) (by decide +kernel)
set_option maxRecDepth 20000 in
theorem gX6_later_X6_lateOn : GoodIn wsX6_later (wsV RX6 139 RX6 yX6_lateOn wsX6_lateOn) := goodIn_app (goodIn_of _ (by decide +kernel)) ggX6_later_X6_lateOn
set_option maxRecDepth 20000 in
theorem ggX6_later_X6_put : GoodIn wsX6_later wsX6_put := goodIn_r _ [71, 2, 85, 86, 87, 88, 89, 90, 91, 92, 93, 94, 95, 96, 97, 98, 99, 100] (by decide +kernel) (by decide +kernel)
set_option maxRecDepth 20000 in
theorem gX6_later_X6_put : GoodIn wsX6_later (wsV RX6 79 RX6 yX6_put wsX6_put) := goodIn_app (goodIn_of _ (by decide +kernel)) ggX6_later_X6_put
set_option maxRecDepth 20000 in
theorem ggX6_later_X6_orNone : GoodIn wsX6_later wsX6_orNone := goodIn_r _ [83, 84, 7, 8, 9, 5, 10, 11, 1, 85, 86, 87, 88, 89, 90, 91, 92, 93, 94, 95, 96, 97, 98, 99, 100] (by decide +kernel) (by decide +kernel)
set_option maxRecDepth 20000 in
theorem gX6_later_X6_orNone : GoodIn wsX6_later (wsV RX6 130 RX6 yX6_orNone wsX6_orNone) := goodIn_app (goodIn_of _ (by decide +kernel)) ggX6_later_X6_orNone
theorem dX6_later_0 : decode cX6_later 0 = .ok (.iload_n 1, 1) := by decide +kernel
theorem dX6_later_1 : decode cX6_later 1 = .ok (.i2l, 1) := by decide +kernel
theorem dX6_later_2 : decode cX6_later 2 = .ok (.iconst 1, 1) := by decide +kernel
theorem dX6_later_3 : decode cX6_later 3 = .ok (.bipush 60, 2) := by decide +kernel
theorem dX6_later_5 : decode cX6_later 5 = .ok (.invokestatic 41, 3) := by decide +kernel
theorem dX6_later_8 : decode cX6_later 8 = .ok (.ifCond .ne 10, 3) := by decide +kernel
theorem dX6_later_11 : decode cX6_later 11 = .ok (.aload_n 0, 1) := by decide +kernel
theorem dX6_later_12 : decode cX6_later 12 = .ok (.ldc 35, 2) := by decide +kernel
theorem dX6_later_14 : decode cX6_later 14 = .ok (.invokevirtual 37, 3) := by decide +kernel
theorem dX6_later_17 : decode cX6_later 17 = .ok (.ireturn, 1) := by decide +kernel
theorem dX6_later_18 : decode cX6_later 18 = .ok (.aload_n 0, 1) := by decide +kernel
theorem dX6_later_19 : decode cX6_later 19 = .ok (.invokevirtual 118, 3) := by decide +kernel
theorem dX6_later_22 : decode cX6_later 22 = .ok (.aload_n 0, 1) := by decide +kernel
theorem dX6_later_23 : decode cX6_later 23 = .ok (.sipush 200, 3) := by decide +kernel
theorem dX6_later_26 : decode cX6_later 26 = .ok (.invokevirtual 139, 3) := by decide +kernel
theorem dX6_later_29 : decode cX6_later 29 = .ok (.istore_n 2, 1) := by decide +kernel
theorem dX6_later_30 : decode cX6_later 30 = .ok (.iconst (-1), 1) := by decide +kernel
theorem dX6_later_31 : decode cX6_later 31 = .ok (.istore_n 3, 1) := by decide +kernel
theorem dX6_later_32 : decode cX6_later 32 = .ok (.iconst 0, 1) := by decide +kernel
theorem dX6_later_33 : decode cX6_later 33 = .ok (.istore 4, 2) := by decide +kernel
theorem dX6_later_35 : decode cX6_later 35 = .ok (.iload 4, 2) := by decide +kernel
theorem dX6_later_37 : decode cX6_later 37 = .ok (.aload_n 0, 1) := by decide +kernel
theorem dX6_later_38 : decode cX6_later 38 = .ok (.getfield 9, 3) := by decide +kernel
theorem dX6_later_41 : decode cX6_later 41 = .ok (.iconst 3, 1) := by decide +kernel
theorem dX6_later_42 : decode cX6_later 42 = .ok (.iaload, 1) := by decide +kernel
theorem dX6_later_43 : decode cX6_later 43 = .ok (.if_icmp .ge 52, 3) := by decide +kernel
theorem dX6_later_46 : decode cX6_later 46 = .ok (.aload_n 0, 1) := by decide +kernel
theorem dX6_later_47 : decode cX6_later 47 = .ok (.iload 4, 2) := by decide +kernel
theorem dX6_later_49 : decode cX6_later 49 = .ok (.iconst 4, 1) := by decide +kernel
theorem dX6_later_50 : decode cX6_later 50 = .ok (.iload_n 1, 1) := by decide +kernel
theorem dX6_later_51 : decode cX6_later 51 = .ok (.invokevirtual 79, 3) := by decide +kernel
theorem dX6_later_54 : decode cX6_later 54 = .ok (.aload_n 0, 1) := by decide +kernel
theorem dX6_later_55 : decode cX6_later 55 = .ok (.sipush 200, 3) := by decide +kernel
theorem dX6_later_58 : decode cX6_later 58 = .ok (.invokevirtual 139, 3) := by decide +kernel
theorem dX6_later_61 : decode cX6_later 61 = .ok (.istore 5, 2) := by decide +kernel
theorem dX6_later_63 : decode cX6_later 63 = .ok (.iload 5, 2) := by decide +kernel
theorem dX6_later_65 : decode cX6_later 65 = .ok (.iload_n 2, 1) := by decide +kernel
theorem dX6_later_66 : decode cX6_later 66 = .ok (.if_icmp .ge 8, 3) := by decide +kernel
theorem dX6_later_69 : decode cX6_later 69 = .ok (.iload 4, 2) := by decide +kernel
theorem dX6_later_71 : decode cX6_later 71 = .ok (.goto 4, 3) := by decide +kernel
theorem dX6_later_74 : decode cX6_later 74 = .ok (.iload_n 3, 1) := by decide +kernel
theorem dX6_later_75 : decode cX6_later 75 = .ok (.istore_n 3, 1) := by decide +kernel
theorem dX6_later_76 : decode cX6_later 76 = .ok (.iload 5, 2) := by decide +kernel
theorem dX6_later_78 : decode cX6_later 78 = .ok (.iload_n 2, 1) := by decide +kernel
theorem dX6_later_79 : decode cX6_later 79 = .ok (.if_icmp .ge 8, 3) := by decide +kernel
theorem dX6_later_82 : decode cX6_later 82 = .ok (.iload 5, 2) := by decide +kernel
theorem dX6_later_84 : decode cX6_later 84 = .ok (.goto 4, 3) := by decide +kernel
theorem dX6_later_87 : decode cX6_later 87 = .ok (.iload_n 2, 1) := by decide +kernel
theorem dX6_later_88 : decode cX6_later 88 = .ok (.istore_n 2, 1) := by decide +kernel
theorem dX6_later_89 : decode cX6_later 89 = .ok (.iinc 4 1, 3) := by decide +kernel
theorem dX6_later_92 : decode cX6_later 92 = .ok (.goto (-57), 3) := by decide +kernel
theorem dX6_later_95 : decode cX6_later 95 = .ok (.aload_n 0, 1) := by decide +kernel
theorem dX6_later_96 : decode cX6_later 96 = .ok (.iload_n 3, 1) := by decide +kernel
theorem dX6_later_97 : decode cX6_later 97 = .ok (.invokevirtual 130, 3) := by decide +kernel
theorem dX6_later_100 : decode cX6_later 100 = .ok (.ireturn, 1) := by decide +kernel
set_option maxRecDepth 20000 in
theorem ggX6_kind_X6_isPart : GoodIn wsX6_kind wsX6_isPart := goodIn_r _ [6, 7, 8, 9, 5, 10, 85, 86, 87, 88, 89, 90, 91, 92, 93, 94, 95, 96, 97, 98, 99, 100] (by decide +kernel) (by decide +kernel)
set_option maxRecDepth 20000 in
theorem gX6_kind_X6_isPart : GoodIn wsX6_kind (wsV RX6 88 RX6 yX6_isPart wsX6_isPart) := goodIn_app (goodIn_of _ (by decide +kernel)) ggX6_kind_X6_isPart
set_option maxRecDepth 20000 in
theorem ggX6_kind_X6_finds : GoodIn wsX6_kind wsX6_finds := goodIn_r _ [14, 15, 1, 85, 86, 87, 88, 89, 90, 91, 92, 93, 94, 95, 96, 97, 98, 99, 100] (by decide +kernel) (by decide +kernel)
set_option maxRecDepth 20000 in
theorem gX6_kind_X6_finds : GoodIn wsX6_kind (wsV RX6 37 RX6 yX6_finds wsX6_finds) := goodIn_app (goodIn_of _ (by decide +kernel)) ggX6_kind_X6_finds
set_option maxRecDepth 20000 in
theorem ggX6_kind_X6_thinks : GoodIn wsX6_kind wsX6_thinks := goodIn_r _ [19, 7, 20, 21, 22, 5, 23, 85, 86, 87, 88, 89, 90, 91, 92, 93, 94, 95, 96, 97, 98, 99, 100] (by decide +kernel) (by decide +kernel)
set_option maxRecDepth 20000 in
theorem gX6_kind_X6_thinks : GoodIn wsX6_kind (wsV RX6 118 RX6 yX6_thinks wsX6_thinks) := goodIn_app (goodIn_of _ (by decide +kernel)) ggX6_kind_X6_thinks
set_option maxRecDepth 20000 in
theorem ggX6_kind_X6_put : GoodIn wsX6_kind wsX6_put := goodIn_r _ [27, 7, 85, 86, 87, 88, 89, 90, 91, 92, 93, 94, 95, 96, 97, 98, 99, 100] (by decide +kernel) (by decide +kernel)
set_option maxRecDepth 20000 in
theorem gX6_kind_X6_put : GoodIn wsX6_kind (wsV RX6 79 RX6 yX6_put wsX6_put) := goodIn_app (goodIn_of _ (by decide +kernel)) ggX6_kind_X6_put
set_option maxRecDepth 20000 in
theorem ggX6_kind_X6_doneIn : GoodIn wsX6_kind wsX6_doneIn := goodIn_r _ [31, 32, 33, 34, 5, 35, 36, 37, 38, 39, 7, 40, 41, 42, 43, 44, 45, 46, 47, 48, 49, 50, 51, 52, 53, 54, 55, 56, 57, 58, 59, 60, 61, 62, 63, 64, 65, 66, 67, 68, 69, 70, 71, 24, 25, 26, 27, 72, 73, 74, 75, 76, 77, 78, 79, 20, 21, 22, 23, 85, 86, 87, 88, 89, 90, 91, 92, 93, 94, 95, 96, 97, 98, 99, 100] (by decide +kernel) (by decide +kernel)
set_option maxRecDepth 20000 in
theorem gX6_kind_X6_doneIn : GoodIn wsX6_kind (wsV RX6 127 RX6 yX6_doneIn wsX6_doneIn) := goodIn_app (goodIn_of _ (by decide +kernel)) ggX6_kind_X6_doneIn
set_option maxRecDepth 20000 in
theorem ggX6_kind_X6_orNone : GoodIn wsX6_kind wsX6_orNone := goodIn_r _ [83, 84, 11, 12, 13, 5, 14, 15, 1, 85, 86, 87, 88, 89, 90, 91, 92, 93, 94, 95, 96, 97, 98, 99, 100] (by decide +kernel) (by decide +kernel)
set_option maxRecDepth 20000 in
theorem gX6_kind_X6_orNone : GoodIn wsX6_kind (wsV RX6 130 RX6 yX6_orNone wsX6_orNone) := goodIn_app (goodIn_of _ (by decide +kernel)) ggX6_kind_X6_orNone
theorem dX6_kind_0 : decode cX6_kind 0 = .ok (.aload_n 0, 1) := by decide +kernel
theorem dX6_kind_1 : decode cX6_kind 1 = .ok (.iload_n 1, 1) := by decide +kernel
theorem dX6_kind_2 : decode cX6_kind 2 = .ok (.invokevirtual 88, 3) := by decide +kernel
theorem dX6_kind_5 : decode cX6_kind 5 = .ok (.ifCond .ne 10, 3) := by decide +kernel
theorem dX6_kind_8 : decode cX6_kind 8 = .ok (.aload_n 0, 1) := by decide +kernel
theorem dX6_kind_9 : decode cX6_kind 9 = .ok (.ldc 35, 2) := by decide +kernel
theorem dX6_kind_11 : decode cX6_kind 11 = .ok (.invokevirtual 37, 3) := by decide +kernel
theorem dX6_kind_14 : decode cX6_kind 14 = .ok (.ireturn, 1) := by decide +kernel
theorem dX6_kind_15 : decode cX6_kind 15 = .ok (.aload_n 0, 1) := by decide +kernel
theorem dX6_kind_16 : decode cX6_kind 16 = .ok (.invokevirtual 118, 3) := by decide +kernel
theorem dX6_kind_19 : decode cX6_kind 19 = .ok (.iconst (-1), 1) := by decide +kernel
theorem dX6_kind_20 : decode cX6_kind 20 = .ok (.istore_n 2, 1) := by decide +kernel
theorem dX6_kind_21 : decode cX6_kind 21 = .ok (.sipush 401, 3) := by decide +kernel
theorem dX6_kind_24 : decode cX6_kind 24 = .ok (.istore_n 3, 1) := by decide +kernel
theorem dX6_kind_25 : decode cX6_kind 25 = .ok (.iconst 0, 1) := by decide +kernel
theorem dX6_kind_26 : decode cX6_kind 26 = .ok (.istore 4, 2) := by decide +kernel
theorem dX6_kind_28 : decode cX6_kind 28 = .ok (.iload 4, 2) := by decide +kernel
theorem dX6_kind_30 : decode cX6_kind 30 = .ok (.iconst 5, 1) := by decide +kernel
theorem dX6_kind_31 : decode cX6_kind 31 = .ok (.if_icmp .gt 69, 3) := by decide +kernel
theorem dX6_kind_34 : decode cX6_kind 34 = .ok (.aload_n 0, 1) := by decide +kernel
theorem dX6_kind_35 : decode cX6_kind 35 = .ok (.iload_n 1, 1) := by decide +kernel
theorem dX6_kind_36 : decode cX6_kind 36 = .ok (.iconst 0, 1) := by decide +kernel
theorem dX6_kind_37 : decode cX6_kind 37 = .ok (.iload 4, 2) := by decide +kernel
theorem dX6_kind_39 : decode cX6_kind 39 = .ok (.invokevirtual 79, 3) := by decide +kernel
theorem dX6_kind_42 : decode cX6_kind 42 = .ok (.aload_n 0, 1) := by decide +kernel
theorem dX6_kind_43 : decode cX6_kind 43 = .ok (.iload_n 1, 1) := by decide +kernel
theorem dX6_kind_44 : decode cX6_kind 44 = .ok (.sipush 400, 3) := by decide +kernel
theorem dX6_kind_47 : decode cX6_kind 47 = .ok (.invokevirtual 127, 3) := by decide +kernel
theorem dX6_kind_50 : decode cX6_kind 50 = .ok (.istore 5, 2) := by decide +kernel
theorem dX6_kind_52 : decode cX6_kind 52 = .ok (.iload 5, 2) := by decide +kernel
theorem dX6_kind_54 : decode cX6_kind 54 = .ok (.ifCond .lt 13, 3) := by decide +kernel
theorem dX6_kind_57 : decode cX6_kind 57 = .ok (.iload 5, 2) := by decide +kernel
theorem dX6_kind_59 : decode cX6_kind 59 = .ok (.iload_n 3, 1) := by decide +kernel
theorem dX6_kind_60 : decode cX6_kind 60 = .ok (.if_icmp .ge 7, 3) := by decide +kernel
theorem dX6_kind_63 : decode cX6_kind 63 = .ok (.iconst 1, 1) := by decide +kernel
theorem dX6_kind_64 : decode cX6_kind 64 = .ok (.goto 4, 3) := by decide +kernel
theorem dX6_kind_67 : decode cX6_kind 67 = .ok (.iconst 0, 1) := by decide +kernel
theorem dX6_kind_68 : decode cX6_kind 68 = .ok (.istore 6, 2) := by decide +kernel
theorem dX6_kind_70 : decode cX6_kind 70 = .ok (.iload 6, 2) := by decide +kernel
theorem dX6_kind_72 : decode cX6_kind 72 = .ok (.ifCond .eq 8, 3) := by decide +kernel
theorem dX6_kind_75 : decode cX6_kind 75 = .ok (.iload 4, 2) := by decide +kernel
theorem dX6_kind_77 : decode cX6_kind 77 = .ok (.goto 4, 3) := by decide +kernel
theorem dX6_kind_80 : decode cX6_kind 80 = .ok (.iload_n 2, 1) := by decide +kernel
theorem dX6_kind_81 : decode cX6_kind 81 = .ok (.istore_n 2, 1) := by decide +kernel
theorem dX6_kind_82 : decode cX6_kind 82 = .ok (.iload 6, 2) := by decide +kernel
theorem dX6_kind_84 : decode cX6_kind 84 = .ok (.ifCond .eq 8, 3) := by decide +kernel
theorem dX6_kind_87 : decode cX6_kind 87 = .ok (.iload 5, 2) := by decide +kernel
theorem dX6_kind_89 : decode cX6_kind 89 = .ok (.goto 4, 3) := by decide +kernel
theorem dX6_kind_92 : decode cX6_kind 92 = .ok (.iload_n 3, 1) := by decide +kernel
theorem dX6_kind_93 : decode cX6_kind 93 = .ok (.istore_n 3, 1) := by decide +kernel
theorem dX6_kind_94 : decode cX6_kind 94 = .ok (.iinc 4 1, 3) := by decide +kernel
theorem dX6_kind_97 : decode cX6_kind 97 = .ok (.goto (-69), 3) := by decide +kernel
theorem dX6_kind_100 : decode cX6_kind 100 = .ok (.aload_n 0, 1) := by decide +kernel
theorem dX6_kind_101 : decode cX6_kind 101 = .ok (.iload_n 2, 1) := by decide +kernel
theorem dX6_kind_102 : decode cX6_kind 102 = .ok (.invokevirtual 130, 3) := by decide +kernel
theorem dX6_kind_105 : decode cX6_kind 105 = .ok (.ireturn, 1) := by decide +kernel
set_option maxRecDepth 20000 in
theorem ggX6_bears_X6_in : GoodIn wsX6_bears wsX6_in := goodIn_r _ [6] (by decide +kernel) (by decide +kernel)
set_option maxRecDepth 20000 in
theorem gX6_bears_X6_in : GoodIn wsX6_bears (va_wsS RX6 41 yX6_in wsX6_in) := goodIn_app (goodIn_of _ (by decide +kernel)) ggX6_bears_X6_in
set_option maxRecDepth 20000 in
theorem ggX6_bears_X6_finds : GoodIn wsX6_bears wsX6_finds := goodIn_r _ [10, 11, 1, 89, 90, 91, 92, 93, 94, 95, 96, 97, 98, 99, 100, 101, 102, 103, 104] (by decide +kernel) (by decide +kernel)
set_option maxRecDepth 20000 in
theorem gX6_bears_X6_finds : GoodIn wsX6_bears (wsV RX6 37 RX6 yX6_finds wsX6_finds) := goodIn_app (goodIn_of _ (by decide +kernel)) ggX6_bears_X6_finds
set_option maxRecDepth 20000 in
theorem ggX6_bears_X6_thinks : GoodIn wsX6_bears wsX6_thinks := goodIn_r _ [15, 2, 16, 17, 18, 5, 19, 89, 90, 91, 92, 93, 94, 95, 96, 97, 98, 99, 100, 101, 102, 103, 104] (by decide +kernel) (by decide +kernel)
set_option maxRecDepth 20000 in
theorem gX6_bears_X6_thinks : GoodIn wsX6_bears (wsV RX6 118 RX6 yX6_thinks wsX6_thinks) := goodIn_app (goodIn_of _ (by decide +kernel)) ggX6_bears_X6_thinks
set_option maxRecDepth 20000 in
theorem ggX6_bears_X6_goesFor : GoodIn wsX6_bears wsX6_goesFor := goodIn_r _ [23, 24, 25, 26, 5, 27, 28, 2, 29, 30, 31, 32, 33, 34, 35, 36, 37, 38, 39, 40, 41, 42, 43, 44, 45, 46, 47, 48, 49, 50, 51, 52, 53, 54, 55, 56, 57, 58, 59, 60, 61, 62, 63, 64, 65, 66, 67, 68, 69, 70, 71, 89, 90, 91, 92, 93, 94, 95, 96, 97, 98, 99, 100, 101, 102, 103, 104] (by decide +kernel) (by decide +kernel)
set_option maxRecDepth 20000 in
theorem gX6_bears_X6_goesFor : GoodIn wsX6_bears (wsV RX6 110 RX6 yX6_goesFor wsX6_goesFor) := goodIn_app (goodIn_of _ (by decide +kernel)) ggX6_bears_X6_goesFor
set_option maxRecDepth 20000 in
theorem ggX6_bears_X6_areDone : GoodIn wsX6_bears wsX6_areDone := goodIn_r _ [75, 2, 76, 77, 78, 5, 79, 33, 34, 35, 36, 37, 38, 39, 40, 41, 42, 43, 44, 89, 90, 91, 92, 93, 94, 95, 96, 97, 98, 99, 100, 101, 102, 103, 104] (by decide +kernel) (by decide +kernel)
set_option maxRecDepth 20000 in
theorem gX6_bears_X6_areDone : GoodIn wsX6_bears (wsV RX6 133 RX6 yX6_areDone wsX6_areDone) := goodIn_app (goodIn_of _ (by decide +kernel)) ggX6_bears_X6_areDone
set_option maxRecDepth 20000 in
theorem ggX6_bears_X6_putsBack : GoodIn wsX6_bears wsX6_putsBack := goodIn_r _ [83, 16, 2, 17, 18, 5, 19, 89, 90, 91, 92, 93, 94, 95, 96, 97, 98, 99, 100, 101, 102, 103, 104] (by decide +kernel) (by decide +kernel)
set_option maxRecDepth 20000 in
theorem gX6_bears_X6_putsBack : GoodIn wsX6_bears (wsV RX6 121 RX6 yX6_putsBack wsX6_putsBack) := goodIn_app (goodIn_of _ (by decide +kernel)) ggX6_bears_X6_putsBack
set_option maxRecDepth 20000 in
theorem ggX6_bears_X6_orNone : GoodIn wsX6_bears wsX6_orNone := goodIn_r _ [87, 88, 7, 8, 9, 5, 10, 11, 1, 89, 90, 91, 92, 93, 94, 95, 96, 97, 98, 99, 100, 101, 102, 103, 104] (by decide +kernel) (by decide +kernel)
set_option maxRecDepth 20000 in
theorem gX6_bears_X6_orNone : GoodIn wsX6_bears (wsV RX6 130 RX6 yX6_orNone wsX6_orNone) := goodIn_app (goodIn_of _ (by decide +kernel)) ggX6_bears_X6_orNone
theorem dX6_bears_0 : decode cX6_bears 0 = .ok (.iload_n 1, 1) := by decide +kernel
theorem dX6_bears_1 : decode cX6_bears 1 = .ok (.i2l, 1) := by decide +kernel
theorem dX6_bears_2 : decode cX6_bears 2 = .ok (.iconst 1, 1) := by decide +kernel
theorem dX6_bears_3 : decode cX6_bears 3 = .ok (.sipush 200, 3) := by decide +kernel
theorem dX6_bears_6 : decode cX6_bears 6 = .ok (.invokestatic 41, 3) := by decide +kernel
theorem dX6_bears_9 : decode cX6_bears 9 = .ok (.ifCond .ne 10, 3) := by decide +kernel
theorem dX6_bears_12 : decode cX6_bears 12 = .ok (.aload_n 0, 1) := by decide +kernel
theorem dX6_bears_13 : decode cX6_bears 13 = .ok (.ldc 35, 2) := by decide +kernel
theorem dX6_bears_15 : decode cX6_bears 15 = .ok (.invokevirtual 37, 3) := by decide +kernel
theorem dX6_bears_18 : decode cX6_bears 18 = .ok (.ireturn, 1) := by decide +kernel
theorem dX6_bears_19 : decode cX6_bears 19 = .ok (.aload_n 0, 1) := by decide +kernel
theorem dX6_bears_20 : decode cX6_bears 20 = .ok (.invokevirtual 118, 3) := by decide +kernel
theorem dX6_bears_23 : decode cX6_bears 23 = .ok (.iconst (-1), 1) := by decide +kernel
theorem dX6_bears_24 : decode cX6_bears 24 = .ok (.istore_n 2, 1) := by decide +kernel
theorem dX6_bears_25 : decode cX6_bears 25 = .ok (.bipush 99, 2) := by decide +kernel
theorem dX6_bears_27 : decode cX6_bears 27 = .ok (.istore_n 3, 1) := by decide +kernel
theorem dX6_bears_28 : decode cX6_bears 28 = .ok (.iload_n 3, 1) := by decide +kernel
theorem dX6_bears_29 : decode cX6_bears 29 = .ok (.ifCond .lt 42, 3) := by decide +kernel
theorem dX6_bears_32 : decode cX6_bears 32 = .ok (.iload_n 2, 1) := by decide +kernel
theorem dX6_bears_33 : decode cX6_bears 33 = .ok (.ifCond .ge 38, 3) := by decide +kernel
theorem dX6_bears_36 : decode cX6_bears 36 = .ok (.aload_n 0, 1) := by decide +kernel
theorem dX6_bears_37 : decode cX6_bears 37 = .ok (.getfield 9, 3) := by decide +kernel
theorem dX6_bears_40 : decode cX6_bears 40 = .ok (.iconst 1, 1) := by decide +kernel
theorem dX6_bears_41 : decode cX6_bears 41 = .ok (.iload_n 3, 1) := by decide +kernel
theorem dX6_bears_42 : decode cX6_bears 42 = .ok (.iastore, 1) := by decide +kernel
theorem dX6_bears_43 : decode cX6_bears 43 = .ok (.aload_n 0, 1) := by decide +kernel
theorem dX6_bears_44 : decode cX6_bears 44 = .ok (.iload_n 1, 1) := by decide +kernel
theorem dX6_bears_45 : decode cX6_bears 45 = .ok (.invokevirtual 110, 3) := by decide +kernel
theorem dX6_bears_48 : decode cX6_bears 48 = .ok (.aload_n 0, 1) := by decide +kernel
theorem dX6_bears_49 : decode cX6_bears 49 = .ok (.invokevirtual 133, 3) := by decide +kernel
theorem dX6_bears_52 : decode cX6_bears 52 = .ok (.ifCond .eq 7, 3) := by decide +kernel
theorem dX6_bears_55 : decode cX6_bears 55 = .ok (.iload_n 3, 1) := by decide +kernel
theorem dX6_bears_56 : decode cX6_bears 56 = .ok (.goto 4, 3) := by decide +kernel
theorem dX6_bears_59 : decode cX6_bears 59 = .ok (.iconst (-1), 1) := by decide +kernel
theorem dX6_bears_60 : decode cX6_bears 60 = .ok (.istore_n 2, 1) := by decide +kernel
theorem dX6_bears_61 : decode cX6_bears 61 = .ok (.aload_n 0, 1) := by decide +kernel
theorem dX6_bears_62 : decode cX6_bears 62 = .ok (.invokevirtual 121, 3) := by decide +kernel
theorem dX6_bears_65 : decode cX6_bears 65 = .ok (.iinc 3 (-1), 3) := by decide +kernel
theorem dX6_bears_68 : decode cX6_bears 68 = .ok (.goto (-40), 3) := by decide +kernel
theorem dX6_bears_71 : decode cX6_bears 71 = .ok (.aload_n 0, 1) := by decide +kernel
theorem dX6_bears_72 : decode cX6_bears 72 = .ok (.iload_n 2, 1) := by decide +kernel
theorem dX6_bears_73 : decode cX6_bears 73 = .ok (.invokevirtual 130, 3) := by decide +kernel
theorem dX6_bears_76 : decode cX6_bears 76 = .ok (.ireturn, 1) := by decide +kernel
set_option maxRecDepth 20000 in
theorem ggX6_holiday_X6_thinks : GoodIn wsX6_holiday wsX6_thinks := goodIn_r _ [6, 1, 7, 8, 9, 5, 10, 86, 87, 88, 89, 90, 91, 92, 93, 94, 95, 96, 97, 98, 99, 100, 101] (by decide +kernel) (by decide +kernel)
set_option maxRecDepth 20000 in
theorem gX6_holiday_X6_thinks : GoodIn wsX6_holiday (wsV RX6 118 RX6 yX6_thinks wsX6_thinks) := goodIn_app (goodIn_of _ (by decide +kernel)) ggX6_holiday_X6_thinks
set_option maxRecDepth 20000 in
theorem ggX6_holiday_X6_allIn : GoodIn wsX6_holiday wsX6_allIn := goodIn_r _ [14, 15, 16, 17, 5, 18, 1, 19, 20, 21, 22, 23, 24, 25, 26, 27, 28, 29, 30, 31, 32, 33, 34, 35, 36, 37, 38, 39, 40, 41, 42, 43, 44, 45, 46, 47, 48, 49, 50, 51, 52, 53, 54, 55, 56, 57, 58, 59, 60, 61, 62, 63, 64, 65, 66, 67, 68, 69, 70, 71, 72, 73, 74, 7, 8, 9, 10, 86, 87, 88, 89, 90, 91, 92, 93, 94, 95, 96, 97, 98, 99, 100, 101] (by decide +kernel) (by decide +kernel)
set_option maxRecDepth 20000 in
theorem gX6_holiday_X6_allIn : GoodIn wsX6_holiday (wsV RX6 136 RX6 yX6_allIn wsX6_allIn) := goodIn_app (goodIn_of _ (by decide +kernel)) ggX6_holiday_X6_allIn
set_option maxRecDepth 20000 in
theorem ggX6_holiday_X6_orNone : GoodIn wsX6_holiday wsX6_orNone := goodIn_r _ [78, 79, 80, 81, 82, 5, 83, 84, 85, 86, 87, 88, 89, 90, 91, 92, 93, 94, 95, 96, 97, 98, 99, 100, 101] (by decide +kernel) (by decide +kernel)
set_option maxRecDepth 20000 in
theorem gX6_holiday_X6_orNone : GoodIn wsX6_holiday (wsV RX6 130 RX6 yX6_orNone wsX6_orNone) := goodIn_app (goodIn_of _ (by decide +kernel)) ggX6_holiday_X6_orNone
theorem dX6_holiday_0 : decode cX6_holiday 0 = .ok (.aload_n 0, 1) := by decide +kernel
theorem dX6_holiday_1 : decode cX6_holiday 1 = .ok (.invokevirtual 118, 3) := by decide +kernel
theorem dX6_holiday_4 : decode cX6_holiday 4 = .ok (.aload_n 0, 1) := by decide +kernel
theorem dX6_holiday_5 : decode cX6_holiday 5 = .ok (.invokevirtual 136, 3) := by decide +kernel
theorem dX6_holiday_8 : decode cX6_holiday 8 = .ok (.istore_n 1, 1) := by decide +kernel
theorem dX6_holiday_9 : decode cX6_holiday 9 = .ok (.iload_n 1, 1) := by decide +kernel
theorem dX6_holiday_10 : decode cX6_holiday 10 = .ok (.ifCond .ge 9, 3) := by decide +kernel
theorem dX6_holiday_13 : decode cX6_holiday 13 = .ok (.sipush 401, 3) := by decide +kernel
theorem dX6_holiday_16 : decode cX6_holiday 16 = .ok (.goto 4, 3) := by decide +kernel
theorem dX6_holiday_19 : decode cX6_holiday 19 = .ok (.iload_n 1, 1) := by decide +kernel
theorem dX6_holiday_20 : decode cX6_holiday 20 = .ok (.istore_n 2, 1) := by decide +kernel
theorem dX6_holiday_21 : decode cX6_holiday 21 = .ok (.iconst (-1), 1) := by decide +kernel
theorem dX6_holiday_22 : decode cX6_holiday 22 = .ok (.istore_n 3, 1) := by decide +kernel
theorem dX6_holiday_23 : decode cX6_holiday 23 = .ok (.iconst 0, 1) := by decide +kernel
theorem dX6_holiday_24 : decode cX6_holiday 24 = .ok (.istore 4, 2) := by decide +kernel
theorem dX6_holiday_26 : decode cX6_holiday 26 = .ok (.iload 4, 2) := by decide +kernel
theorem dX6_holiday_28 : decode cX6_holiday 28 = .ok (.bipush 7, 2) := by decide +kernel
theorem dX6_holiday_30 : decode cX6_holiday 30 = .ok (.if_icmp .ge 79, 3) := by decide +kernel
theorem dX6_holiday_33 : decode cX6_holiday 33 = .ok (.aload_n 0, 1) := by decide +kernel
theorem dX6_holiday_34 : decode cX6_holiday 34 = .ok (.getfield 9, 3) := by decide +kernel
theorem dX6_holiday_37 : decode cX6_holiday 37 = .ok (.iconst 4, 1) := by decide +kernel
theorem dX6_holiday_38 : decode cX6_holiday 38 = .ok (.iload 4, 2) := by decide +kernel
theorem dX6_holiday_40 : decode cX6_holiday 40 = .ok (.iadd, 1) := by decide +kernel
theorem dX6_holiday_41 : decode cX6_holiday 41 = .ok (.iaload, 1) := by decide +kernel
theorem dX6_holiday_42 : decode cX6_holiday 42 = .ok (.ifCond .ne 61, 3) := by decide +kernel
theorem dX6_holiday_45 : decode cX6_holiday 45 = .ok (.aload_n 0, 1) := by decide +kernel
theorem dX6_holiday_46 : decode cX6_holiday 46 = .ok (.getfield 9, 3) := by decide +kernel
theorem dX6_holiday_49 : decode cX6_holiday 49 = .ok (.iconst 4, 1) := by decide +kernel
theorem dX6_holiday_50 : decode cX6_holiday 50 = .ok (.iload 4, 2) := by decide +kernel
theorem dX6_holiday_52 : decode cX6_holiday 52 = .ok (.iadd, 1) := by decide +kernel
theorem dX6_holiday_53 : decode cX6_holiday 53 = .ok (.iconst 1, 1) := by decide +kernel
theorem dX6_holiday_54 : decode cX6_holiday 54 = .ok (.iastore, 1) := by decide +kernel
theorem dX6_holiday_55 : decode cX6_holiday 55 = .ok (.aload_n 0, 1) := by decide +kernel
theorem dX6_holiday_56 : decode cX6_holiday 56 = .ok (.invokevirtual 136, 3) := by decide +kernel
theorem dX6_holiday_59 : decode cX6_holiday 59 = .ok (.istore 5, 2) := by decide +kernel
theorem dX6_holiday_61 : decode cX6_holiday 61 = .ok (.iload 5, 2) := by decide +kernel
theorem dX6_holiday_63 : decode cX6_holiday 63 = .ok (.ifCond .lt 13, 3) := by decide +kernel
theorem dX6_holiday_66 : decode cX6_holiday 66 = .ok (.iload 5, 2) := by decide +kernel
theorem dX6_holiday_68 : decode cX6_holiday 68 = .ok (.iload_n 2, 1) := by decide +kernel
theorem dX6_holiday_69 : decode cX6_holiday 69 = .ok (.if_icmp .ge 7, 3) := by decide +kernel
theorem dX6_holiday_72 : decode cX6_holiday 72 = .ok (.iconst 1, 1) := by decide +kernel
theorem dX6_holiday_73 : decode cX6_holiday 73 = .ok (.goto 4, 3) := by decide +kernel
theorem dX6_holiday_76 : decode cX6_holiday 76 = .ok (.iconst 0, 1) := by decide +kernel
theorem dX6_holiday_77 : decode cX6_holiday 77 = .ok (.istore 6, 2) := by decide +kernel
theorem dX6_holiday_79 : decode cX6_holiday 79 = .ok (.iload 6, 2) := by decide +kernel
theorem dX6_holiday_81 : decode cX6_holiday 81 = .ok (.ifCond .eq 8, 3) := by decide +kernel
theorem dX6_holiday_84 : decode cX6_holiday 84 = .ok (.iload 4, 2) := by decide +kernel
theorem dX6_holiday_86 : decode cX6_holiday 86 = .ok (.goto 4, 3) := by decide +kernel
theorem dX6_holiday_89 : decode cX6_holiday 89 = .ok (.iload_n 3, 1) := by decide +kernel
theorem dX6_holiday_90 : decode cX6_holiday 90 = .ok (.istore_n 3, 1) := by decide +kernel
theorem dX6_holiday_91 : decode cX6_holiday 91 = .ok (.iload 6, 2) := by decide +kernel
theorem dX6_holiday_93 : decode cX6_holiday 93 = .ok (.ifCond .eq 8, 3) := by decide +kernel
theorem dX6_holiday_96 : decode cX6_holiday 96 = .ok (.iload 5, 2) := by decide +kernel
theorem dX6_holiday_98 : decode cX6_holiday 98 = .ok (.goto 4, 3) := by decide +kernel
theorem dX6_holiday_101 : decode cX6_holiday 101 = .ok (.iload_n 2, 1) := by decide +kernel
theorem dX6_holiday_102 : decode cX6_holiday 102 = .ok (.istore_n 2, 1) := by decide +kernel
theorem dX6_holiday_103 : decode cX6_holiday 103 = .ok (.iinc 4 1, 3) := by decide +kernel
theorem dX6_holiday_106 : decode cX6_holiday 106 = .ok (.goto (-80), 3) := by decide +kernel
theorem dX6_holiday_109 : decode cX6_holiday 109 = .ok (.aload_n 0, 1) := by decide +kernel
theorem dX6_holiday_110 : decode cX6_holiday 110 = .ok (.iload_n 3, 1) := by decide +kernel
theorem dX6_holiday_111 : decode cX6_holiday 111 = .ok (.invokevirtual 130, 3) := by decide +kernel
theorem dX6_holiday_114 : decode cX6_holiday 114 = .ok (.ireturn, 1) := by decide +kernel
set_option maxRecDepth 20000 in
theorem ggX6_last_X6_thinks : GoodIn wsX6_last wsX6_thinks := goodIn_r _ [6, 1, 7, 8, 9, 5, 10, 78, 79, 80, 81, 82, 83, 84, 85, 86, 87, 88, 89, 90, 91, 92, 93] (by decide +kernel) (by decide +kernel)
set_option maxRecDepth 20000 in
theorem gX6_last_X6_thinks : GoodIn wsX6_last (wsV RX6 118 RX6 yX6_thinks wsX6_thinks) := goodIn_app (goodIn_of _ (by decide +kernel)) ggX6_last_X6_thinks
set_option maxRecDepth 20000 in
theorem ggX6_last_X6_doneIn : GoodIn wsX6_last wsX6_doneIn := goodIn_r _ [14, 15, 16, 17, 5, 18, 19, 20, 21, 22, 1, 23, 24, 25, 26, 27, 28, 29, 30, 31, 32, 33, 34, 35, 36, 37, 38, 39, 40, 41, 42, 43, 44, 45, 46, 47, 48, 49, 50, 51, 52, 53, 54, 55, 56, 57, 58, 59, 60, 61, 62, 63, 64, 65, 66, 7, 8, 9, 10, 78, 79, 80, 81, 82, 83, 84, 85, 86, 87, 88, 89, 90, 91, 92, 93] (by decide +kernel) (by decide +kernel)
set_option maxRecDepth 20000 in
theorem gX6_last_X6_doneIn : GoodIn wsX6_last (wsV RX6 127 RX6 yX6_doneIn wsX6_doneIn) := goodIn_app (goodIn_of _ (by decide +kernel)) ggX6_last_X6_doneIn
set_option maxRecDepth 20000 in
theorem ggX6_last_X6_orNone : GoodIn wsX6_last wsX6_orNone := goodIn_r _ [70, 71, 72, 73, 74, 5, 75, 76, 77, 78, 79, 80, 81, 82, 83, 84, 85, 86, 87, 88, 89, 90, 91, 92, 93] (by decide +kernel) (by decide +kernel)
set_option maxRecDepth 20000 in
theorem gX6_last_X6_orNone : GoodIn wsX6_last (wsV RX6 130 RX6 yX6_orNone wsX6_orNone) := goodIn_app (goodIn_of _ (by decide +kernel)) ggX6_last_X6_orNone
theorem dX6_last_0 : decode cX6_last 0 = .ok (.aload_n 0, 1) := by decide +kernel
theorem dX6_last_1 : decode cX6_last 1 = .ok (.invokevirtual 118, 3) := by decide +kernel
theorem dX6_last_4 : decode cX6_last 4 = .ok (.iconst (-1), 1) := by decide +kernel
theorem dX6_last_5 : decode cX6_last 5 = .ok (.istore_n 1, 1) := by decide +kernel
theorem dX6_last_6 : decode cX6_last 6 = .ok (.iconst (-1), 1) := by decide +kernel
theorem dX6_last_7 : decode cX6_last 7 = .ok (.istore_n 2, 1) := by decide +kernel
theorem dX6_last_8 : decode cX6_last 8 = .ok (.iconst 0, 1) := by decide +kernel
theorem dX6_last_9 : decode cX6_last 9 = .ok (.istore_n 3, 1) := by decide +kernel
theorem dX6_last_10 : decode cX6_last 10 = .ok (.iload_n 3, 1) := by decide +kernel
theorem dX6_last_11 : decode cX6_last 11 = .ok (.aload_n 0, 1) := by decide +kernel
theorem dX6_last_12 : decode cX6_last 12 = .ok (.getfield 9, 3) := by decide +kernel
theorem dX6_last_15 : decode cX6_last 15 = .ok (.iconst 3, 1) := by decide +kernel
theorem dX6_last_16 : decode cX6_last 16 = .ok (.iaload, 1) := by decide +kernel
theorem dX6_last_17 : decode cX6_last 17 = .ok (.if_icmp .ge 59, 3) := by decide +kernel
theorem dX6_last_20 : decode cX6_last 20 = .ok (.aload_n 0, 1) := by decide +kernel
theorem dX6_last_21 : decode cX6_last 21 = .ok (.iload_n 3, 1) := by decide +kernel
theorem dX6_last_22 : decode cX6_last 22 = .ok (.sipush 400, 3) := by decide +kernel
theorem dX6_last_25 : decode cX6_last 25 = .ok (.invokevirtual 127, 3) := by decide +kernel
theorem dX6_last_28 : decode cX6_last 28 = .ok (.istore 4, 2) := by decide +kernel
theorem dX6_last_30 : decode cX6_last 30 = .ok (.iload 4, 2) := by decide +kernel
theorem dX6_last_32 : decode cX6_last 32 = .ok (.ifCond .ge 9, 3) := by decide +kernel
theorem dX6_last_35 : decode cX6_last 35 = .ok (.sipush 401, 3) := by decide +kernel
theorem dX6_last_38 : decode cX6_last 38 = .ok (.goto 5, 3) := by decide +kernel
theorem dX6_last_41 : decode cX6_last 41 = .ok (.iload 4, 2) := by decide +kernel
theorem dX6_last_43 : decode cX6_last 43 = .ok (.istore 4, 2) := by decide +kernel
theorem dX6_last_45 : decode cX6_last 45 = .ok (.iload 4, 2) := by decide +kernel
theorem dX6_last_47 : decode cX6_last 47 = .ok (.iload_n 2, 1) := by decide +kernel
theorem dX6_last_48 : decode cX6_last 48 = .ok (.if_icmp .le 7, 3) := by decide +kernel
theorem dX6_last_51 : decode cX6_last 51 = .ok (.iload_n 3, 1) := by decide +kernel
theorem dX6_last_52 : decode cX6_last 52 = .ok (.goto 4, 3) := by decide +kernel
theorem dX6_last_55 : decode cX6_last 55 = .ok (.iload_n 1, 1) := by decide +kernel
theorem dX6_last_56 : decode cX6_last 56 = .ok (.istore_n 1, 1) := by decide +kernel
theorem dX6_last_57 : decode cX6_last 57 = .ok (.iload 4, 2) := by decide +kernel
theorem dX6_last_59 : decode cX6_last 59 = .ok (.iload_n 2, 1) := by decide +kernel
theorem dX6_last_60 : decode cX6_last 60 = .ok (.if_icmp .le 8, 3) := by decide +kernel
theorem dX6_last_63 : decode cX6_last 63 = .ok (.iload 4, 2) := by decide +kernel
theorem dX6_last_65 : decode cX6_last 65 = .ok (.goto 4, 3) := by decide +kernel
theorem dX6_last_68 : decode cX6_last 68 = .ok (.iload_n 2, 1) := by decide +kernel
theorem dX6_last_69 : decode cX6_last 69 = .ok (.istore_n 2, 1) := by decide +kernel
theorem dX6_last_70 : decode cX6_last 70 = .ok (.iinc 3 1, 3) := by decide +kernel
theorem dX6_last_73 : decode cX6_last 73 = .ok (.goto (-63), 3) := by decide +kernel
theorem dX6_last_76 : decode cX6_last 76 = .ok (.aload_n 0, 1) := by decide +kernel
theorem dX6_last_77 : decode cX6_last 77 = .ok (.iload_n 1, 1) := by decide +kernel
theorem dX6_last_78 : decode cX6_last 78 = .ok (.invokevirtual 130, 3) := by decide +kernel
theorem dX6_last_81 : decode cX6_last 81 = .ok (.ireturn, 1) := by decide +kernel
set_option maxRecDepth 20000 in
theorem ggX6_longest_X6_isPart : GoodIn wsX6_longest wsX6_isPart := goodIn_r _ [8, 2, 9, 10, 7, 11, 86, 87, 88, 89, 90, 91, 92, 93, 94, 95, 96, 97, 98, 99, 100, 101] (by decide +kernel) (by decide +kernel)
set_option maxRecDepth 20000 in
theorem gX6_longest_X6_isPart : GoodIn wsX6_longest (wsV RX6 88 RX6 yX6_isPart wsX6_isPart) := goodIn_app (goodIn_of _ (by decide +kernel)) ggX6_longest_X6_isPart
set_option maxRecDepth 20000 in
theorem ggX6_longest_X6_finds : GoodIn wsX6_longest wsX6_finds := goodIn_r _ [15, 16, 1, 86, 87, 88, 89, 90, 91, 92, 93, 94, 95, 96, 97, 98, 99, 100, 101] (by decide +kernel) (by decide +kernel)
set_option maxRecDepth 20000 in
theorem gX6_longest_X6_finds : GoodIn wsX6_longest (wsV RX6 37 RX6 yX6_finds wsX6_finds) := goodIn_app (goodIn_of _ (by decide +kernel)) ggX6_longest_X6_finds
set_option maxRecDepth 20000 in
theorem ggX6_longest_X6_it : GoodIn wsX6_longest wsX6_it := goodIn_r _ [20, 2, 86, 87, 88, 89, 90, 91, 92, 93, 94, 95, 96, 97, 98, 99, 100, 101] (by decide +kernel) (by decide +kernel)
set_option maxRecDepth 20000 in
theorem gX6_longest_X6_it : GoodIn wsX6_longest (wsV RX6 45 RX6 yX6_it wsX6_it) := goodIn_app (goodIn_of _ (by decide +kernel)) ggX6_longest_X6_it
set_option maxRecDepth 20000 in
theorem ggX6_longest_X6_thinks : GoodIn wsX6_longest wsX6_thinks := goodIn_r _ [24, 2, 25, 26, 27, 7, 28, 86, 87, 88, 89, 90, 91, 92, 93, 94, 95, 96, 97, 98, 99, 100, 101] (by decide +kernel) (by decide +kernel)
set_option maxRecDepth 20000 in
theorem gX6_longest_X6_thinks : GoodIn wsX6_longest (wsV RX6 118 RX6 yX6_thinks wsX6_thinks) := goodIn_app (goodIn_of _ (by decide +kernel)) ggX6_longest_X6_thinks
set_option maxRecDepth 20000 in
theorem ggX6_longest_X6_put : GoodIn wsX6_longest wsX6_put := goodIn_r _ [32, 2, 86, 87, 88, 89, 90, 91, 92, 93, 94, 95, 96, 97, 98, 99, 100, 101] (by decide +kernel) (by decide +kernel)
set_option maxRecDepth 20000 in
theorem gX6_longest_X6_put : GoodIn wsX6_longest (wsV RX6 79 RX6 yX6_put wsX6_put) := goodIn_app (goodIn_of _ (by decide +kernel)) ggX6_longest_X6_put
set_option maxRecDepth 20000 in
theorem ggX6_longest_X6_goesFor : GoodIn wsX6_longest wsX6_goesFor := goodIn_r _ [36, 37, 38, 39, 7, 40, 41, 2, 42, 43, 44, 45, 46, 47, 48, 49, 17, 18, 19, 20, 50, 51, 52, 53, 54, 55, 56, 57, 58, 59, 60, 61, 62, 63, 64, 65, 66, 67, 68, 69, 70, 71, 72, 29, 30, 31, 32, 73, 74, 75, 76, 86, 87, 88, 89, 90, 91, 92, 93, 94, 95, 96, 97, 98, 99, 100, 101] (by decide +kernel) (by decide +kernel)
set_option maxRecDepth 20000 in
theorem gX6_longest_X6_goesFor : GoodIn wsX6_longest (wsV RX6 110 RX6 yX6_goesFor wsX6_goesFor) := goodIn_app (goodIn_of _ (by decide +kernel)) ggX6_longest_X6_goesFor
set_option maxRecDepth 20000 in
theorem ggX6_longest_X6_isDone : GoodIn wsX6_longest wsX6_isDone := goodIn_r _ [49, 17, 18, 19, 7, 20, 2, 50, 51, 52, 53, 86, 87, 88, 89, 90, 91, 92, 93, 94, 95, 96, 97, 98, 99, 100, 101] (by decide +kernel) (by decide +kernel)
set_option maxRecDepth 20000 in
theorem gX6_longest_X6_isDone : GoodIn wsX6_longest (wsV RX6 56 RX6 yX6_isDone wsX6_isDone) := goodIn_app (goodIn_of _ (by decide +kernel)) ggX6_longest_X6_isDone
set_option maxRecDepth 20000 in
theorem ggX6_longest_X6_putsBack : GoodIn wsX6_longest wsX6_putsBack := goodIn_r _ [80, 25, 2, 26, 27, 7, 28, 86, 87, 88, 89, 90, 91, 92, 93, 94, 95, 96, 97, 98, 99, 100, 101] (by decide +kernel) (by decide +kernel)
set_option maxRecDepth 20000 in
theorem gX6_longest_X6_putsBack : GoodIn wsX6_longest (wsV RX6 121 RX6 yX6_putsBack wsX6_putsBack) := goodIn_app (goodIn_of _ (by decide +kernel)) ggX6_longest_X6_putsBack
set_option maxRecDepth 20000 in
theorem ggX6_longest_X6_orNone : GoodIn wsX6_longest wsX6_orNone := goodIn_r _ [84, 85, 12, 13, 14, 7, 15, 16, 1, 86, 87, 88, 89, 90, 91, 92, 93, 94, 95, 96, 97, 98, 99, 100, 101] (by decide +kernel) (by decide +kernel)
set_option maxRecDepth 20000 in
theorem gX6_longest_X6_orNone : GoodIn wsX6_longest (wsV RX6 130 RX6 yX6_orNone wsX6_orNone) := goodIn_app (goodIn_of _ (by decide +kernel)) ggX6_longest_X6_orNone
theorem dX6_longest_0 : decode cX6_longest 0 = .ok (.aload_n 0, 1) := by decide +kernel
theorem dX6_longest_1 : decode cX6_longest 1 = .ok (.iload_n 1, 1) := by decide +kernel
theorem dX6_longest_2 : decode cX6_longest 2 = .ok (.invokevirtual 88, 3) := by decide +kernel
theorem dX6_longest_5 : decode cX6_longest 5 = .ok (.ifCond .ne 10, 3) := by decide +kernel
theorem dX6_longest_8 : decode cX6_longest 8 = .ok (.aload_n 0, 1) := by decide +kernel
theorem dX6_longest_9 : decode cX6_longest 9 = .ok (.ldc 35, 2) := by decide +kernel
theorem dX6_longest_11 : decode cX6_longest 11 = .ok (.invokevirtual 37, 3) := by decide +kernel
theorem dX6_longest_14 : decode cX6_longest 14 = .ok (.ireturn, 1) := by decide +kernel
theorem dX6_longest_15 : decode cX6_longest 15 = .ok (.aload_n 0, 1) := by decide +kernel
theorem dX6_longest_16 : decode cX6_longest 16 = .ok (.iload_n 1, 1) := by decide +kernel
theorem dX6_longest_17 : decode cX6_longest 17 = .ok (.iconst 3, 1) := by decide +kernel
theorem dX6_longest_18 : decode cX6_longest 18 = .ok (.invokevirtual 45, 3) := by decide +kernel
theorem dX6_longest_21 : decode cX6_longest 21 = .ok (.aload_n 0, 1) := by decide +kernel
theorem dX6_longest_22 : decode cX6_longest 22 = .ok (.getfield 9, 3) := by decide +kernel
theorem dX6_longest_25 : decode cX6_longest 25 = .ok (.iconst 0, 1) := by decide +kernel
theorem dX6_longest_26 : decode cX6_longest 26 = .ok (.iaload, 1) := by decide +kernel
theorem dX6_longest_27 : decode cX6_longest 27 = .ok (.isub, 1) := by decide +kernel
theorem dX6_longest_28 : decode cX6_longest 28 = .ok (.iconst 1, 1) := by decide +kernel
theorem dX6_longest_29 : decode cX6_longest 29 = .ok (.iadd, 1) := by decide +kernel
theorem dX6_longest_30 : decode cX6_longest 30 = .ok (.istore_n 2, 1) := by decide +kernel
theorem dX6_longest_31 : decode cX6_longest 31 = .ok (.iload_n 2, 1) := by decide +kernel
theorem dX6_longest_32 : decode cX6_longest 32 = .ok (.iconst 1, 1) := by decide +kernel
theorem dX6_longest_33 : decode cX6_longest 33 = .ok (.if_icmp .lt 10, 3) := by decide +kernel
theorem dX6_longest_36 : decode cX6_longest 36 = .ok (.iload_n 2, 1) := by decide +kernel
theorem dX6_longest_37 : decode cX6_longest 37 = .ok (.sipush 400, 3) := by decide +kernel
theorem dX6_longest_40 : decode cX6_longest 40 = .ok (.if_icmp .le 10, 3) := by decide +kernel
theorem dX6_longest_43 : decode cX6_longest 43 = .ok (.aload_n 0, 1) := by decide +kernel
theorem dX6_longest_44 : decode cX6_longest 44 = .ok (.ldc 109, 2) := by decide +kernel
theorem dX6_longest_46 : decode cX6_longest 46 = .ok (.invokevirtual 37, 3) := by decide +kernel
theorem dX6_longest_49 : decode cX6_longest 49 = .ok (.ireturn, 1) := by decide +kernel
theorem dX6_longest_50 : decode cX6_longest 50 = .ok (.aload_n 0, 1) := by decide +kernel
theorem dX6_longest_51 : decode cX6_longest 51 = .ok (.invokevirtual 118, 3) := by decide +kernel
theorem dX6_longest_54 : decode cX6_longest 54 = .ok (.iconst (-1), 1) := by decide +kernel
theorem dX6_longest_55 : decode cX6_longest 55 = .ok (.istore_n 3, 1) := by decide +kernel
theorem dX6_longest_56 : decode cX6_longest 56 = .ok (.bipush 99, 2) := by decide +kernel
theorem dX6_longest_58 : decode cX6_longest 58 = .ok (.istore 4, 2) := by decide +kernel
theorem dX6_longest_60 : decode cX6_longest 60 = .ok (.iload 4, 2) := by decide +kernel
theorem dX6_longest_62 : decode cX6_longest 62 = .ok (.ifCond .le 45, 3) := by decide +kernel
theorem dX6_longest_65 : decode cX6_longest 65 = .ok (.iload_n 3, 1) := by decide +kernel
theorem dX6_longest_66 : decode cX6_longest 66 = .ok (.ifCond .ge 41, 3) := by decide +kernel
theorem dX6_longest_69 : decode cX6_longest 69 = .ok (.aload_n 0, 1) := by decide +kernel
theorem dX6_longest_70 : decode cX6_longest 70 = .ok (.iload_n 1, 1) := by decide +kernel
theorem dX6_longest_71 : decode cX6_longest 71 = .ok (.iconst 1, 1) := by decide +kernel
theorem dX6_longest_72 : decode cX6_longest 72 = .ok (.iload 4, 2) := by decide +kernel
theorem dX6_longest_74 : decode cX6_longest 74 = .ok (.invokevirtual 79, 3) := by decide +kernel
theorem dX6_longest_77 : decode cX6_longest 77 = .ok (.aload_n 0, 1) := by decide +kernel
theorem dX6_longest_78 : decode cX6_longest 78 = .ok (.iload_n 2, 1) := by decide +kernel
theorem dX6_longest_79 : decode cX6_longest 79 = .ok (.invokevirtual 110, 3) := by decide +kernel
theorem dX6_longest_82 : decode cX6_longest 82 = .ok (.aload_n 0, 1) := by decide +kernel
theorem dX6_longest_83 : decode cX6_longest 83 = .ok (.iload_n 1, 1) := by decide +kernel
theorem dX6_longest_84 : decode cX6_longest 84 = .ok (.invokevirtual 56, 3) := by decide +kernel
theorem dX6_longest_87 : decode cX6_longest 87 = .ok (.ifCond .eq 8, 3) := by decide +kernel
theorem dX6_longest_90 : decode cX6_longest 90 = .ok (.iload 4, 2) := by decide +kernel
theorem dX6_longest_92 : decode cX6_longest 92 = .ok (.goto 4, 3) := by decide +kernel
theorem dX6_longest_95 : decode cX6_longest 95 = .ok (.iconst (-1), 1) := by decide +kernel
theorem dX6_longest_96 : decode cX6_longest 96 = .ok (.istore_n 3, 1) := by decide +kernel
theorem dX6_longest_97 : decode cX6_longest 97 = .ok (.aload_n 0, 1) := by decide +kernel
theorem dX6_longest_98 : decode cX6_longest 98 = .ok (.invokevirtual 121, 3) := by decide +kernel
theorem dX6_longest_101 : decode cX6_longest 101 = .ok (.iinc 4 (-1), 3) := by decide +kernel
theorem dX6_longest_104 : decode cX6_longest 104 = .ok (.goto (-44), 3) := by decide +kernel
theorem dX6_longest_107 : decode cX6_longest 107 = .ok (.aload_n 0, 1) := by decide +kernel
theorem dX6_longest_108 : decode cX6_longest 108 = .ok (.iload_n 3, 1) := by decide +kernel
theorem dX6_longest_109 : decode cX6_longest 109 = .ok (.invokevirtual 130, 3) := by decide +kernel
theorem dX6_longest_112 : decode cX6_longest 112 = .ok (.ireturn, 1) := by decide +kernel
set_option maxRecDepth 20000 in
theorem ggX6_due_X6_isPart : GoodIn wsX6_due wsX6_isPart := goodIn_r _ [7, 8, 9, 10, 6, 11, 85, 86, 87, 88, 89, 90, 91, 92, 93, 94, 95, 96, 97, 98, 99, 100] (by decide +kernel) (by decide +kernel)
set_option maxRecDepth 20000 in
theorem gX6_due_X6_isPart : GoodIn wsX6_due (wsV RX6 88 RX6 yX6_isPart wsX6_isPart) := goodIn_app (goodIn_of _ (by decide +kernel)) ggX6_due_X6_isPart
set_option maxRecDepth 20000 in
theorem ggX6_due_X6_finds : GoodIn wsX6_due wsX6_finds := goodIn_r _ [15, 16, 1, 85, 86, 87, 88, 89, 90, 91, 92, 93, 94, 95, 96, 97, 98, 99, 100] (by decide +kernel) (by decide +kernel)
set_option maxRecDepth 20000 in
theorem gX6_due_X6_finds : GoodIn wsX6_due (wsV RX6 37 RX6 yX6_finds wsX6_finds) := goodIn_app (goodIn_of _ (by decide +kernel)) ggX6_due_X6_finds
set_option maxRecDepth 20000 in
theorem ggX6_due_X6_thinks : GoodIn wsX6_due wsX6_thinks := goodIn_r _ [20, 8, 2, 21, 22, 6, 23, 85, 86, 87, 88, 89, 90, 91, 92, 93, 94, 95, 96, 97, 98, 99, 100] (by decide +kernel) (by decide +kernel)
set_option maxRecDepth 20000 in
theorem gX6_due_X6_thinks : GoodIn wsX6_due (wsV RX6 118 RX6 yX6_thinks wsX6_thinks) := goodIn_app (goodIn_of _ (by decide +kernel)) ggX6_due_X6_thinks
set_option maxRecDepth 20000 in
theorem ggX6_due_X6_put : GoodIn wsX6_due wsX6_put := goodIn_r _ [27, 8, 85, 86, 87, 88, 89, 90, 91, 92, 93, 94, 95, 96, 97, 98, 99, 100] (by decide +kernel) (by decide +kernel)
set_option maxRecDepth 20000 in
theorem gX6_due_X6_put : GoodIn wsX6_due (wsV RX6 79 RX6 yX6_put wsX6_put) := goodIn_app (goodIn_of _ (by decide +kernel)) ggX6_due_X6_put
set_option maxRecDepth 20000 in
theorem ggX6_due_X6_doneIn : GoodIn wsX6_due wsX6_doneIn := goodIn_r _ [31, 32, 33, 34, 6, 35, 36, 37, 38, 39, 8, 40, 41, 42, 43, 44, 45, 46, 47, 48, 49, 50, 51, 52, 53, 54, 55, 56, 57, 58, 59, 60, 61, 62, 63, 64, 65, 66, 67, 68, 69, 70, 71, 24, 25, 26, 27, 72, 73, 74, 75, 76, 77, 78, 79, 2, 21, 22, 23, 85, 86, 87, 88, 89, 90, 91, 92, 93, 94, 95, 96, 97, 98, 99, 100] (by decide +kernel) (by decide +kernel)
set_option maxRecDepth 20000 in
theorem gX6_due_X6_doneIn : GoodIn wsX6_due (wsV RX6 127 RX6 yX6_doneIn wsX6_doneIn) := goodIn_app (goodIn_of _ (by decide +kernel)) ggX6_due_X6_doneIn
set_option maxRecDepth 20000 in
theorem ggX6_due_X6_orNone : GoodIn wsX6_due wsX6_orNone := goodIn_r _ [83, 84, 12, 13, 14, 6, 15, 16, 1, 85, 86, 87, 88, 89, 90, 91, 92, 93, 94, 95, 96, 97, 98, 99, 100] (by decide +kernel) (by decide +kernel)
set_option maxRecDepth 20000 in
theorem gX6_due_X6_orNone : GoodIn wsX6_due (wsV RX6 130 RX6 yX6_orNone wsX6_orNone) := goodIn_app (goodIn_of _ (by decide +kernel)) ggX6_due_X6_orNone
theorem dX6_due_0 : decode cX6_due 0 = .ok (.aload_n 0, 1) := by decide +kernel
theorem dX6_due_1 : decode cX6_due 1 = .ok (.iload_n 1, 1) := by decide +kernel
theorem dX6_due_2 : decode cX6_due 2 = .ok (.invokevirtual 88, 3) := by decide +kernel
theorem dX6_due_5 : decode cX6_due 5 = .ok (.ifCond .ne 10, 3) := by decide +kernel
theorem dX6_due_8 : decode cX6_due 8 = .ok (.aload_n 0, 1) := by decide +kernel
theorem dX6_due_9 : decode cX6_due 9 = .ok (.ldc 35, 2) := by decide +kernel
theorem dX6_due_11 : decode cX6_due 11 = .ok (.invokevirtual 37, 3) := by decide +kernel
theorem dX6_due_14 : decode cX6_due 14 = .ok (.ireturn, 1) := by decide +kernel
theorem dX6_due_15 : decode cX6_due 15 = .ok (.aload_n 0, 1) := by decide +kernel
theorem dX6_due_16 : decode cX6_due 16 = .ok (.invokevirtual 118, 3) := by decide +kernel
theorem dX6_due_19 : decode cX6_due 19 = .ok (.iconst (-1), 1) := by decide +kernel
theorem dX6_due_20 : decode cX6_due 20 = .ok (.istore_n 2, 1) := by decide +kernel
theorem dX6_due_21 : decode cX6_due 21 = .ok (.sipush 201, 3) := by decide +kernel
theorem dX6_due_24 : decode cX6_due 24 = .ok (.istore_n 3, 1) := by decide +kernel
theorem dX6_due_25 : decode cX6_due 25 = .ok (.aload_n 0, 1) := by decide +kernel
theorem dX6_due_26 : decode cX6_due 26 = .ok (.getfield 16, 3) := by decide +kernel
theorem dX6_due_29 : decode cX6_due 29 = .ok (.iconst 0, 1) := by decide +kernel
theorem dX6_due_30 : decode cX6_due 30 = .ok (.iaload, 1) := by decide +kernel
theorem dX6_due_31 : decode cX6_due 31 = .ok (.istore 4, 2) := by decide +kernel
theorem dX6_due_33 : decode cX6_due 33 = .ok (.iload 4, 2) := by decide +kernel
theorem dX6_due_35 : decode cX6_due 35 = .ok (.aload_n 0, 1) := by decide +kernel
theorem dX6_due_36 : decode cX6_due 36 = .ok (.getfield 16, 3) := by decide +kernel
theorem dX6_due_39 : decode cX6_due 39 = .ok (.iconst 0, 1) := by decide +kernel
theorem dX6_due_40 : decode cX6_due 40 = .ok (.iaload, 1) := by decide +kernel
theorem dX6_due_41 : decode cX6_due 41 = .ok (.bipush 60, 2) := by decide +kernel
theorem dX6_due_43 : decode cX6_due 43 = .ok (.iadd, 1) := by decide +kernel
theorem dX6_due_44 : decode cX6_due 44 = .ok (.if_icmp .gt 77, 3) := by decide +kernel
theorem dX6_due_47 : decode cX6_due 47 = .ok (.iload 4, 2) := by decide +kernel
theorem dX6_due_49 : decode cX6_due 49 = .ok (.sipush 9999, 3) := by decide +kernel
theorem dX6_due_52 : decode cX6_due 52 = .ok (.if_icmp .gt 69, 3) := by decide +kernel
theorem dX6_due_55 : decode cX6_due 55 = .ok (.aload_n 0, 1) := by decide +kernel
theorem dX6_due_56 : decode cX6_due 56 = .ok (.iload_n 1, 1) := by decide +kernel
theorem dX6_due_57 : decode cX6_due 57 = .ok (.iconst 3, 1) := by decide +kernel
theorem dX6_due_58 : decode cX6_due 58 = .ok (.iload 4, 2) := by decide +kernel
theorem dX6_due_60 : decode cX6_due 60 = .ok (.invokevirtual 79, 3) := by decide +kernel
theorem dX6_due_63 : decode cX6_due 63 = .ok (.aload_n 0, 1) := by decide +kernel
theorem dX6_due_64 : decode cX6_due 64 = .ok (.iload_n 1, 1) := by decide +kernel
theorem dX6_due_65 : decode cX6_due 65 = .ok (.sipush 200, 3) := by decide +kernel
theorem dX6_due_68 : decode cX6_due 68 = .ok (.invokevirtual 127, 3) := by decide +kernel
theorem dX6_due_71 : decode cX6_due 71 = .ok (.istore 5, 2) := by decide +kernel
theorem dX6_due_73 : decode cX6_due 73 = .ok (.iload 5, 2) := by decide +kernel
theorem dX6_due_75 : decode cX6_due 75 = .ok (.ifCond .lt 13, 3) := by decide +kernel
theorem dX6_due_78 : decode cX6_due 78 = .ok (.iload 5, 2) := by decide +kernel
theorem dX6_due_80 : decode cX6_due 80 = .ok (.iload_n 3, 1) := by decide +kernel
theorem dX6_due_81 : decode cX6_due 81 = .ok (.if_icmp .gt 7, 3) := by decide +kernel
theorem dX6_due_84 : decode cX6_due 84 = .ok (.iconst 1, 1) := by decide +kernel
theorem dX6_due_85 : decode cX6_due 85 = .ok (.goto 4, 3) := by decide +kernel
theorem dX6_due_88 : decode cX6_due 88 = .ok (.iconst 0, 1) := by decide +kernel
theorem dX6_due_89 : decode cX6_due 89 = .ok (.istore 6, 2) := by decide +kernel
theorem dX6_due_91 : decode cX6_due 91 = .ok (.iload 6, 2) := by decide +kernel
theorem dX6_due_93 : decode cX6_due 93 = .ok (.ifCond .eq 8, 3) := by decide +kernel
theorem dX6_due_96 : decode cX6_due 96 = .ok (.iload 4, 2) := by decide +kernel
theorem dX6_due_98 : decode cX6_due 98 = .ok (.goto 4, 3) := by decide +kernel
theorem dX6_due_101 : decode cX6_due 101 = .ok (.iload_n 2, 1) := by decide +kernel
theorem dX6_due_102 : decode cX6_due 102 = .ok (.istore_n 2, 1) := by decide +kernel
theorem dX6_due_103 : decode cX6_due 103 = .ok (.iload 6, 2) := by decide +kernel
theorem dX6_due_105 : decode cX6_due 105 = .ok (.ifCond .eq 8, 3) := by decide +kernel
theorem dX6_due_108 : decode cX6_due 108 = .ok (.iload 5, 2) := by decide +kernel
theorem dX6_due_110 : decode cX6_due 110 = .ok (.goto 4, 3) := by decide +kernel
theorem dX6_due_113 : decode cX6_due 113 = .ok (.iload_n 3, 1) := by decide +kernel
theorem dX6_due_114 : decode cX6_due 114 = .ok (.istore_n 3, 1) := by decide +kernel
theorem dX6_due_115 : decode cX6_due 115 = .ok (.iinc 4 1, 3) := by decide +kernel
theorem dX6_due_118 : decode cX6_due 118 = .ok (.goto (-85), 3) := by decide +kernel
theorem dX6_due_121 : decode cX6_due 121 = .ok (.aload_n 0, 1) := by decide +kernel
theorem dX6_due_122 : decode cX6_due 122 = .ok (.iload_n 2, 1) := by decide +kernel
theorem dX6_due_123 : decode cX6_due 123 = .ok (.invokevirtual 130, 3) := by decide +kernel
theorem dX6_due_126 : decode cX6_due 126 = .ok (.ireturn, 1) := by decide +kernel
set_option maxRecDepth 20000 in
theorem ggX6_feed_X6_in : GoodIn wsX6_feed wsX6_in := goodIn_r _ [8] (by decide +kernel) (by decide +kernel)
set_option maxRecDepth 20000 in
theorem gX6_feed_X6_in : GoodIn wsX6_feed (va_wsS RX6 41 yX6_in wsX6_in) := goodIn_app (goodIn_of _ (by decide +kernel)) ggX6_feed_X6_in
set_option maxRecDepth 20000 in
theorem ggX6_feed_X6_finds : GoodIn wsX6_feed wsX6_finds := goodIn_r _ [12, 13, 1, 14, 15, 16, 17, 18, 19, 20, 21, 22, 23, 24, 25, 26, 27, 28, 29] (by decide +kernel) (by decide +kernel)
set_option maxRecDepth 20000 in
theorem gX6_feed_X6_finds : GoodIn wsX6_feed (wsV RX6 37 RX6 yX6_finds wsX6_finds) := goodIn_app (goodIn_of _ (by decide +kernel)) ggX6_feed_X6_finds
theorem dX6_feed_0 : decode cX6_feed 0 = .ok (.iload_n 2, 1) := by decide +kernel
theorem dX6_feed_1 : decode cX6_feed 1 = .ok (.i2l, 1) := by decide +kernel
theorem dX6_feed_2 : decode cX6_feed 2 = .ok (.iconst 1, 1) := by decide +kernel
theorem dX6_feed_3 : decode cX6_feed 3 = .ok (.iconst 4, 1) := by decide +kernel
theorem dX6_feed_4 : decode cX6_feed 4 = .ok (.invokestatic 41, 3) := by decide +kernel
theorem dX6_feed_7 : decode cX6_feed 7 = .ok (.ifCond .ne 10, 3) := by decide +kernel
theorem dX6_feed_10 : decode cX6_feed 10 = .ok (.aload_n 0, 1) := by decide +kernel
theorem dX6_feed_11 : decode cX6_feed 11 = .ok (.ldc 35, 2) := by decide +kernel
theorem dX6_feed_13 : decode cX6_feed 13 = .ok (.invokevirtual 37, 3) := by decide +kernel
theorem dX6_feed_16 : decode cX6_feed 16 = .ok (.ireturn, 1) := by decide +kernel
theorem dX6_feed_17 : decode cX6_feed 17 = .ok (.aload_n 0, 1) := by decide +kernel
theorem dX6_feed_18 : decode cX6_feed 18 = .ok (.getfield 142, 3) := by decide +kernel
theorem dX6_feed_21 : decode cX6_feed 21 = .ok (.iload_n 2, 1) := by decide +kernel
theorem dX6_feed_22 : decode cX6_feed 22 = .ok (.iadd, 1) := by decide +kernel
theorem dX6_feed_23 : decode cX6_feed 23 = .ok (.bipush 120, 2) := by decide +kernel
theorem dX6_feed_25 : decode cX6_feed 25 = .ok (.if_icmp .le 10, 3) := by decide +kernel
theorem dX6_feed_28 : decode cX6_feed 28 = .ok (.aload_n 0, 1) := by decide +kernel
theorem dX6_feed_29 : decode cX6_feed 29 = .ok (.ldc 83, 2) := by decide +kernel
theorem dX6_feed_31 : decode cX6_feed 31 = .ok (.invokevirtual 37, 3) := by decide +kernel
theorem dX6_feed_34 : decode cX6_feed 34 = .ok (.ireturn, 1) := by decide +kernel
theorem dX6_feed_35 : decode cX6_feed 35 = .ok (.iload_n 2, 1) := by decide +kernel
theorem dX6_feed_36 : decode cX6_feed 36 = .ok (.iconst 1, 1) := by decide +kernel
theorem dX6_feed_37 : decode cX6_feed 37 = .ok (.isub, 1) := by decide +kernel
theorem dX6_feed_38 : decode cX6_feed 38 = .ok (.istore_n 3, 1) := by decide +kernel
theorem dX6_feed_39 : decode cX6_feed 39 = .ok (.iload_n 3, 1) := by decide +kernel
theorem dX6_feed_40 : decode cX6_feed 40 = .ok (.ifCond .lt 38, 3) := by decide +kernel
theorem dX6_feed_43 : decode cX6_feed 43 = .ok (.aload_n 0, 1) := by decide +kernel
theorem dX6_feed_44 : decode cX6_feed 44 = .ok (.getfield 22, 3) := by decide +kernel
theorem dX6_feed_47 : decode cX6_feed 47 = .ok (.aload_n 0, 1) := by decide +kernel
theorem dX6_feed_48 : decode cX6_feed 48 = .ok (.getfield 142, 3) := by decide +kernel
theorem dX6_feed_51 : decode cX6_feed 51 = .ok (.iload_n 1, 1) := by decide +kernel
theorem dX6_feed_52 : decode cX6_feed 52 = .ok (.bipush 8, 2) := by decide +kernel
theorem dX6_feed_54 : decode cX6_feed 54 = .ok (.iload_n 3, 1) := by decide +kernel
theorem dX6_feed_55 : decode cX6_feed 55 = .ok (.imul, 1) := by decide +kernel
theorem dX6_feed_56 : decode cX6_feed 56 = .ok (.ishr, 1) := by decide +kernel
theorem dX6_feed_57 : decode cX6_feed 57 = .ok (.sipush 255, 3) := by decide +kernel
theorem dX6_feed_60 : decode cX6_feed 60 = .ok (.iand, 1) := by decide +kernel
theorem dX6_feed_61 : decode cX6_feed 61 = .ok (.iastore, 1) := by decide +kernel
theorem dX6_feed_62 : decode cX6_feed 62 = .ok (.aload_n 0, 1) := by decide +kernel
theorem dX6_feed_63 : decode cX6_feed 63 = .ok (.dup, 1) := by decide +kernel
theorem dX6_feed_64 : decode cX6_feed 64 = .ok (.getfield 142, 3) := by decide +kernel
theorem dX6_feed_67 : decode cX6_feed 67 = .ok (.iconst 1, 1) := by decide +kernel
theorem dX6_feed_68 : decode cX6_feed 68 = .ok (.iadd, 1) := by decide +kernel
theorem dX6_feed_69 : decode cX6_feed 69 = .ok (.putfield 142, 3) := by decide +kernel
theorem dX6_feed_72 : decode cX6_feed 72 = .ok (.iinc 3 (-1), 3) := by decide +kernel
theorem dX6_feed_75 : decode cX6_feed 75 = .ok (.goto (-36), 3) := by decide +kernel
theorem dX6_feed_78 : decode cX6_feed 78 = .ok (.aload_n 0, 1) := by decide +kernel
theorem dX6_feed_79 : decode cX6_feed 79 = .ok (.getfield 142, 3) := by decide +kernel
theorem dX6_feed_82 : decode cX6_feed 82 = .ok (.ireturn, 1) := by decide +kernel
theorem dX6_wipe_0 : decode cX6_wipe 0 = .ok (.aload_n 0, 1) := by decide +kernel
theorem dX6_wipe_1 : decode cX6_wipe 1 = .ok (.getfield 142, 3) := by decide +kernel
theorem dX6_wipe_4 : decode cX6_wipe 4 = .ok (.istore_n 1, 1) := by decide +kernel
theorem dX6_wipe_5 : decode cX6_wipe 5 = .ok (.aload_n 0, 1) := by decide +kernel
theorem dX6_wipe_6 : decode cX6_wipe 6 = .ok (.iconst 0, 1) := by decide +kernel
theorem dX6_wipe_7 : decode cX6_wipe 7 = .ok (.putfield 142, 3) := by decide +kernel
theorem dX6_wipe_10 : decode cX6_wipe 10 = .ok (.iload_n 1, 1) := by decide +kernel
theorem dX6_wipe_11 : decode cX6_wipe 11 = .ok (.ireturn, 1) := by decide +kernel
set_option maxRecDepth 20000 in
theorem ggX6_isByte_X6_in : GoodIn wsX6_isByte wsX6_in := goodIn_r _ [6] (by decide +kernel) (by decide +kernel)
set_option maxRecDepth 20000 in
theorem gX6_isByte_X6_in : GoodIn wsX6_isByte (va_wsS RX6 41 yX6_in wsX6_in) := goodIn_app (goodIn_of _ (by decide +kernel)) ggX6_isByte_X6_in
theorem dX6_isByte_0 : decode cX6_isByte 0 = .ok (.iload_n 1, 1) := by decide +kernel
theorem dX6_isByte_1 : decode cX6_isByte 1 = .ok (.aload_n 0, 1) := by decide +kernel
theorem dX6_isByte_2 : decode cX6_isByte 2 = .ok (.getfield 142, 3) := by decide +kernel
theorem dX6_isByte_5 : decode cX6_isByte 5 = .ok (.if_icmp .ge 22, 3) := by decide +kernel
theorem dX6_isByte_8 : decode cX6_isByte 8 = .ok (.aload_n 0, 1) := by decide +kernel
theorem dX6_isByte_9 : decode cX6_isByte 9 = .ok (.getfield 22, 3) := by decide +kernel
theorem dX6_isByte_12 : decode cX6_isByte 12 = .ok (.iload_n 1, 1) := by decide +kernel
theorem dX6_isByte_13 : decode cX6_isByte 13 = .ok (.iaload, 1) := by decide +kernel
theorem dX6_isByte_14 : decode cX6_isByte 14 = .ok (.i2l, 1) := by decide +kernel
theorem dX6_isByte_15 : decode cX6_isByte 15 = .ok (.iload_n 2, 1) := by decide +kernel
theorem dX6_isByte_16 : decode cX6_isByte 16 = .ok (.iload_n 3, 1) := by decide +kernel
theorem dX6_isByte_17 : decode cX6_isByte 17 = .ok (.invokestatic 41, 3) := by decide +kernel
theorem dX6_isByte_20 : decode cX6_isByte 20 = .ok (.ifCond .eq 7, 3) := by decide +kernel
theorem dX6_isByte_23 : decode cX6_isByte 23 = .ok (.iconst 1, 1) := by decide +kernel
theorem dX6_isByte_24 : decode cX6_isByte 24 = .ok (.goto 4, 3) := by decide +kernel
theorem dX6_isByte_27 : decode cX6_isByte 27 = .ok (.iconst 0, 1) := by decide +kernel
theorem dX6_isByte_28 : decode cX6_isByte 28 = .ok (.ireturn, 1) := by decide +kernel
theorem dX6_isName_0 : decode cX6_isName 0 = .ok (.iload_n 2, 1) := by decide +kernel
theorem dX6_isName_1 : decode cX6_isName 1 = .ok (.bipush 8, 2) := by decide +kernel
theorem dX6_isName_3 : decode cX6_isName 3 = .ok (.if_icmp .gt 26, 3) := by decide +kernel
theorem dX6_isName_6 : decode cX6_isName 6 = .ok (.iload_n 2, 1) := by decide +kernel
theorem dX6_isName_7 : decode cX6_isName 7 = .ok (.bipush 8, 2) := by decide +kernel
theorem dX6_isName_9 : decode cX6_isName 9 = .ok (.if_icmp .eq 16, 3) := by decide +kernel
theorem dX6_isName_12 : decode cX6_isName 12 = .ok (.getstatic 145, 3) := by decide +kernel
theorem dX6_isName_15 : decode cX6_isName 15 = .ok (.bipush 8, 2) := by decide +kernel
theorem dX6_isName_17 : decode cX6_isName 17 = .ok (.iload_n 1, 1) := by decide +kernel
theorem dX6_isName_18 : decode cX6_isName 18 = .ok (.imul, 1) := by decide +kernel
theorem dX6_isName_19 : decode cX6_isName 19 = .ok (.iload_n 2, 1) := by decide +kernel
theorem dX6_isName_20 : decode cX6_isName 20 = .ok (.iadd, 1) := by decide +kernel
theorem dX6_isName_21 : decode cX6_isName 21 = .ok (.iaload, 1) := by decide +kernel
theorem dX6_isName_22 : decode cX6_isName 22 = .ok (.ifCond .ne 7, 3) := by decide +kernel
theorem dX6_isName_25 : decode cX6_isName 25 = .ok (.iconst 1, 1) := by decide +kernel
theorem dX6_isName_26 : decode cX6_isName 26 = .ok (.goto 4, 3) := by decide +kernel
theorem dX6_isName_29 : decode cX6_isName 29 = .ok (.iconst 0, 1) := by decide +kernel
theorem dX6_isName_30 : decode cX6_isName 30 = .ok (.istore_n 3, 1) := by decide +kernel
theorem dX6_isName_31 : decode cX6_isName 31 = .ok (.iconst 0, 1) := by decide +kernel
theorem dX6_isName_32 : decode cX6_isName 32 = .ok (.istore 4, 2) := by decide +kernel
theorem dX6_isName_34 : decode cX6_isName 34 = .ok (.iload 4, 2) := by decide +kernel
theorem dX6_isName_36 : decode cX6_isName 36 = .ok (.iload_n 2, 1) := by decide +kernel
theorem dX6_isName_37 : decode cX6_isName 37 = .ok (.if_icmp .ge 45, 3) := by decide +kernel
theorem dX6_isName_40 : decode cX6_isName 40 = .ok (.iload_n 3, 1) := by decide +kernel
theorem dX6_isName_41 : decode cX6_isName 41 = .ok (.ifCond .eq 41, 3) := by decide +kernel
theorem dX6_isName_44 : decode cX6_isName 44 = .ok (.getstatic 145, 3) := by decide +kernel
theorem dX6_isName_47 : decode cX6_isName 47 = .ok (.bipush 8, 2) := by decide +kernel
theorem dX6_isName_49 : decode cX6_isName 49 = .ok (.iload_n 1, 1) := by decide +kernel
theorem dX6_isName_50 : decode cX6_isName 50 = .ok (.imul, 1) := by decide +kernel
theorem dX6_isName_51 : decode cX6_isName 51 = .ok (.iload 4, 2) := by decide +kernel
theorem dX6_isName_53 : decode cX6_isName 53 = .ok (.iadd, 1) := by decide +kernel
theorem dX6_isName_54 : decode cX6_isName 54 = .ok (.iaload, 1) := by decide +kernel
theorem dX6_isName_55 : decode cX6_isName 55 = .ok (.aload_n 0, 1) := by decide +kernel
theorem dX6_isName_56 : decode cX6_isName 56 = .ok (.getfield 22, 3) := by decide +kernel
theorem dX6_isName_59 : decode cX6_isName 59 = .ok (.aload_n 0, 1) := by decide +kernel
theorem dX6_isName_60 : decode cX6_isName 60 = .ok (.getfield 148, 3) := by decide +kernel
theorem dX6_isName_63 : decode cX6_isName 63 = .ok (.iload 4, 2) := by decide +kernel
theorem dX6_isName_65 : decode cX6_isName 65 = .ok (.iadd, 1) := by decide +kernel
theorem dX6_isName_66 : decode cX6_isName 66 = .ok (.iaload, 1) := by decide +kernel
theorem dX6_isName_67 : decode cX6_isName 67 = .ok (.if_icmp .ne 7, 3) := by decide +kernel
theorem dX6_isName_70 : decode cX6_isName 70 = .ok (.iconst 1, 1) := by decide +kernel
theorem dX6_isName_71 : decode cX6_isName 71 = .ok (.goto 4, 3) := by decide +kernel
theorem dX6_isName_74 : decode cX6_isName 74 = .ok (.iconst 0, 1) := by decide +kernel
theorem dX6_isName_75 : decode cX6_isName 75 = .ok (.istore_n 3, 1) := by decide +kernel
theorem dX6_isName_76 : decode cX6_isName 76 = .ok (.iinc 4 1, 3) := by decide +kernel
theorem dX6_isName_79 : decode cX6_isName 79 = .ok (.goto (-45), 3) := by decide +kernel
theorem dX6_isName_82 : decode cX6_isName 82 = .ok (.iload_n 3, 1) := by decide +kernel
theorem dX6_isName_83 : decode cX6_isName 83 = .ok (.ireturn, 1) := by decide +kernel
set_option maxRecDepth 20000 in
theorem ggX6_wordHere_X6_isName : GoodIn wsX6_wordHere wsX6_isName := goodIn_r _ [7, 8, 9, 2, 10, 11, 12, 13, 14, 15, 16, 17, 18, 19, 20, 21, 22, 23, 24, 25] (by decide +kernel) (by decide +kernel)
set_option maxRecDepth 20000 in
theorem gX6_wordHere_X6_isName : GoodIn wsX6_wordHere (wsV RX6 154 RX6 yX6_isName wsX6_isName) := goodIn_app (goodIn_of _ (by decide +kernel)) ggX6_wordHere_X6_isName
theorem dX6_wordHere_0 : decode cX6_wordHere 0 = .ok (.iconst 0, 1) := by decide +kernel
theorem dX6_wordHere_1 : decode cX6_wordHere 1 = .ok (.istore_n 1, 1) := by decide +kernel
theorem dX6_wordHere_2 : decode cX6_wordHere 2 = .ok (.iload_n 1, 1) := by decide +kernel
theorem dX6_wordHere_3 : decode cX6_wordHere 3 = .ok (.bipush 11, 2) := by decide +kernel
theorem dX6_wordHere_5 : decode cX6_wordHere 5 = .ok (.if_icmp .ge 26, 3) := by decide +kernel
theorem dX6_wordHere_8 : decode cX6_wordHere 8 = .ok (.aload_n 0, 1) := by decide +kernel
theorem dX6_wordHere_9 : decode cX6_wordHere 9 = .ok (.iload_n 1, 1) := by decide +kernel
theorem dX6_wordHere_10 : decode cX6_wordHere 10 = .ok (.aload_n 0, 1) := by decide +kernel
theorem dX6_wordHere_11 : decode cX6_wordHere 11 = .ok (.getfield 151, 3) := by decide +kernel
theorem dX6_wordHere_14 : decode cX6_wordHere 14 = .ok (.aload_n 0, 1) := by decide +kernel
theorem dX6_wordHere_15 : decode cX6_wordHere 15 = .ok (.getfield 148, 3) := by decide +kernel
theorem dX6_wordHere_18 : decode cX6_wordHere 18 = .ok (.isub, 1) := by decide +kernel
theorem dX6_wordHere_19 : decode cX6_wordHere 19 = .ok (.invokevirtual 154, 3) := by decide +kernel
theorem dX6_wordHere_22 : decode cX6_wordHere 22 = .ok (.ifCond .ne 9, 3) := by decide +kernel
theorem dX6_wordHere_25 : decode cX6_wordHere 25 = .ok (.iinc 1 1, 3) := by decide +kernel
theorem dX6_wordHere_28 : decode cX6_wordHere 28 = .ok (.goto (-26), 3) := by decide +kernel
theorem dX6_wordHere_31 : decode cX6_wordHere 31 = .ok (.iload_n 1, 1) := by decide +kernel
theorem dX6_wordHere_32 : decode cX6_wordHere 32 = .ok (.bipush 11, 2) := by decide +kernel
theorem dX6_wordHere_34 : decode cX6_wordHere 34 = .ok (.if_icmp .ge 7, 3) := by decide +kernel
theorem dX6_wordHere_37 : decode cX6_wordHere 37 = .ok (.iload_n 1, 1) := by decide +kernel
theorem dX6_wordHere_38 : decode cX6_wordHere 38 = .ok (.goto 5, 3) := by decide +kernel
theorem dX6_wordHere_41 : decode cX6_wordHere 41 = .ok (.bipush 23, 2) := by decide +kernel
theorem dX6_wordHere_43 : decode cX6_wordHere 43 = .ok (.ireturn, 1) := by decide +kernel
set_option maxRecDepth 20000 in
theorem ggX6_reads_X6_isByte : GoodIn wsX6_reads wsX6_isByte := goodIn_r _ [11, 4, 6, 12, 13, 10, 14, 24, 25, 26, 27, 28, 29, 30, 31, 32, 33, 34, 35, 36, 37, 38, 39] (by decide +kernel) (by decide +kernel)
set_option maxRecDepth 20000 in
theorem gX6_reads_X6_isByte : GoodIn wsX6_reads (wsV RX6 158 RX6 yX6_isByte wsX6_isByte) := goodIn_app (goodIn_of _ (by decide +kernel)) ggX6_reads_X6_isByte
set_option maxRecDepth 20000 in
theorem ggX6_reads_X6_wordHere : GoodIn wsX6_reads wsX6_wordHere := goodIn_r _ [18, 1, 2, 19, 20, 21, 10, 22, 23, 6, 24, 25, 26, 27, 28, 29, 30, 31, 32, 33, 34, 35, 36, 37, 38, 39] (by decide +kernel) (by decide +kernel)
set_option maxRecDepth 20000 in
theorem gX6_reads_X6_wordHere : GoodIn wsX6_reads (wsV RX6 168 RX6 yX6_wordHere wsX6_wordHere) := goodIn_app (goodIn_of _ (by decide +kernel)) ggX6_reads_X6_wordHere
theorem dX6_reads_0 : decode cX6_reads 0 = .ok (.aload_n 0, 1) := by decide +kernel
theorem dX6_reads_1 : decode cX6_reads 1 = .ok (.aload_n 0, 1) := by decide +kernel
theorem dX6_reads_2 : decode cX6_reads 2 = .ok (.getfield 151, 3) := by decide +kernel
theorem dX6_reads_5 : decode cX6_reads 5 = .ok (.bipush 32, 2) := by decide +kernel
theorem dX6_reads_7 : decode cX6_reads 7 = .ok (.bipush 32, 2) := by decide +kernel
theorem dX6_reads_9 : decode cX6_reads 9 = .ok (.invokevirtual 158, 3) := by decide +kernel
theorem dX6_reads_12 : decode cX6_reads 12 = .ok (.ifCond .eq 16, 3) := by decide +kernel
theorem dX6_reads_15 : decode cX6_reads 15 = .ok (.aload_n 0, 1) := by decide +kernel
theorem dX6_reads_16 : decode cX6_reads 16 = .ok (.dup, 1) := by decide +kernel
theorem dX6_reads_17 : decode cX6_reads 17 = .ok (.getfield 151, 3) := by decide +kernel
theorem dX6_reads_20 : decode cX6_reads 20 = .ok (.iconst 1, 1) := by decide +kernel
theorem dX6_reads_21 : decode cX6_reads 21 = .ok (.iadd, 1) := by decide +kernel
theorem dX6_reads_22 : decode cX6_reads 22 = .ok (.putfield 151, 3) := by decide +kernel
theorem dX6_reads_25 : decode cX6_reads 25 = .ok (.goto (-25), 3) := by decide +kernel
theorem dX6_reads_28 : decode cX6_reads 28 = .ok (.aload_n 0, 1) := by decide +kernel
theorem dX6_reads_29 : decode cX6_reads 29 = .ok (.aload_n 0, 1) := by decide +kernel
theorem dX6_reads_30 : decode cX6_reads 30 = .ok (.getfield 151, 3) := by decide +kernel
theorem dX6_reads_33 : decode cX6_reads 33 = .ok (.putfield 148, 3) := by decide +kernel
theorem dX6_reads_36 : decode cX6_reads 36 = .ok (.aload_n 0, 1) := by decide +kernel
theorem dX6_reads_37 : decode cX6_reads 37 = .ok (.iconst 0, 1) := by decide +kernel
theorem dX6_reads_38 : decode cX6_reads 38 = .ok (.putfield 162, 3) := by decide +kernel
theorem dX6_reads_41 : decode cX6_reads 41 = .ok (.aload_n 0, 1) := by decide +kernel
theorem dX6_reads_42 : decode cX6_reads 42 = .ok (.getfield 151, 3) := by decide +kernel
theorem dX6_reads_45 : decode cX6_reads 45 = .ok (.aload_n 0, 1) := by decide +kernel
theorem dX6_reads_46 : decode cX6_reads 46 = .ok (.getfield 142, 3) := by decide +kernel
theorem dX6_reads_49 : decode cX6_reads 49 = .ok (.if_icmp .ne 12, 3) := by decide +kernel
theorem dX6_reads_52 : decode cX6_reads 52 = .ok (.aload_n 0, 1) := by decide +kernel
theorem dX6_reads_53 : decode cX6_reads 53 = .ok (.bipush 22, 2) := by decide +kernel
theorem dX6_reads_55 : decode cX6_reads 55 = .ok (.putfield 165, 3) := by decide +kernel
theorem dX6_reads_58 : decode cX6_reads 58 = .ok (.goto 186, 3) := by decide +kernel
theorem dX6_reads_61 : decode cX6_reads 61 = .ok (.aload_n 0, 1) := by decide +kernel
theorem dX6_reads_62 : decode cX6_reads 62 = .ok (.aload_n 0, 1) := by decide +kernel
theorem dX6_reads_63 : decode cX6_reads 63 = .ok (.getfield 151, 3) := by decide +kernel
theorem dX6_reads_66 : decode cX6_reads 66 = .ok (.bipush 97, 2) := by decide +kernel
theorem dX6_reads_68 : decode cX6_reads 68 = .ok (.bipush 122, 2) := by decide +kernel
theorem dX6_reads_70 : decode cX6_reads 70 = .ok (.invokevirtual 158, 3) := by decide +kernel
theorem dX6_reads_73 : decode cX6_reads 73 = .ok (.ifCond .eq 42, 3) := by decide +kernel
theorem dX6_reads_76 : decode cX6_reads 76 = .ok (.aload_n 0, 1) := by decide +kernel
theorem dX6_reads_77 : decode cX6_reads 77 = .ok (.aload_n 0, 1) := by decide +kernel
theorem dX6_reads_78 : decode cX6_reads 78 = .ok (.getfield 151, 3) := by decide +kernel
theorem dX6_reads_81 : decode cX6_reads 81 = .ok (.bipush 97, 2) := by decide +kernel
theorem dX6_reads_83 : decode cX6_reads 83 = .ok (.bipush 122, 2) := by decide +kernel
theorem dX6_reads_85 : decode cX6_reads 85 = .ok (.invokevirtual 158, 3) := by decide +kernel
theorem dX6_reads_88 : decode cX6_reads 88 = .ok (.ifCond .eq 16, 3) := by decide +kernel
theorem dX6_reads_91 : decode cX6_reads 91 = .ok (.aload_n 0, 1) := by decide +kernel
theorem dX6_reads_92 : decode cX6_reads 92 = .ok (.dup, 1) := by decide +kernel
theorem dX6_reads_93 : decode cX6_reads 93 = .ok (.getfield 151, 3) := by decide +kernel
theorem dX6_reads_96 : decode cX6_reads 96 = .ok (.iconst 1, 1) := by decide +kernel
theorem dX6_reads_97 : decode cX6_reads 97 = .ok (.iadd, 1) := by decide +kernel
theorem dX6_reads_98 : decode cX6_reads 98 = .ok (.putfield 151, 3) := by decide +kernel
theorem dX6_reads_101 : decode cX6_reads 101 = .ok (.goto (-25), 3) := by decide +kernel
theorem dX6_reads_104 : decode cX6_reads 104 = .ok (.aload_n 0, 1) := by decide +kernel
theorem dX6_reads_105 : decode cX6_reads 105 = .ok (.aload_n 0, 1) := by decide +kernel
theorem dX6_reads_106 : decode cX6_reads 106 = .ok (.invokevirtual 168, 3) := by decide +kernel
theorem dX6_reads_109 : decode cX6_reads 109 = .ok (.putfield 165, 3) := by decide +kernel
theorem dX6_reads_112 : decode cX6_reads 112 = .ok (.goto 132, 3) := by decide +kernel
theorem dX6_reads_115 : decode cX6_reads 115 = .ok (.aload_n 0, 1) := by decide +kernel
theorem dX6_reads_116 : decode cX6_reads 116 = .ok (.aload_n 0, 1) := by decide +kernel
theorem dX6_reads_117 : decode cX6_reads 117 = .ok (.getfield 151, 3) := by decide +kernel
theorem dX6_reads_120 : decode cX6_reads 120 = .ok (.bipush 48, 2) := by decide +kernel
theorem dX6_reads_122 : decode cX6_reads 122 = .ok (.bipush 57, 2) := by decide +kernel
theorem dX6_reads_124 : decode cX6_reads 124 = .ok (.invokevirtual 158, 3) := by decide +kernel
theorem dX6_reads_127 : decode cX6_reads 127 = .ok (.ifCond .eq 81, 3) := by decide +kernel
theorem dX6_reads_130 : decode cX6_reads 130 = .ok (.aload_n 0, 1) := by decide +kernel
theorem dX6_reads_131 : decode cX6_reads 131 = .ok (.aload_n 0, 1) := by decide +kernel
theorem dX6_reads_132 : decode cX6_reads 132 = .ok (.getfield 151, 3) := by decide +kernel
theorem dX6_reads_135 : decode cX6_reads 135 = .ok (.bipush 48, 2) := by decide +kernel
theorem dX6_reads_137 : decode cX6_reads 137 = .ok (.bipush 57, 2) := by decide +kernel
theorem dX6_reads_139 : decode cX6_reads 139 = .ok (.invokevirtual 158, 3) := by decide +kernel
theorem dX6_reads_142 : decode cX6_reads 142 = .ok (.ifCond .eq 57, 3) := by decide +kernel
theorem dX6_reads_145 : decode cX6_reads 145 = .ok (.aload_n 0, 1) := by decide +kernel
theorem dX6_reads_146 : decode cX6_reads 146 = .ok (.aload_n 0, 1) := by decide +kernel
theorem dX6_reads_147 : decode cX6_reads 147 = .ok (.getfield 162, 3) := by decide +kernel
theorem dX6_reads_150 : decode cX6_reads 150 = .ok (.sipush 9999, 3) := by decide +kernel
theorem dX6_reads_153 : decode cX6_reads 153 = .ok (.if_icmp .le 10, 3) := by decide +kernel
theorem dX6_reads_156 : decode cX6_reads 156 = .ok (.aload_n 0, 1) := by decide +kernel
theorem dX6_reads_157 : decode cX6_reads 157 = .ok (.getfield 162, 3) := by decide +kernel
theorem dX6_reads_160 : decode cX6_reads 160 = .ok (.goto 23, 3) := by decide +kernel
theorem dX6_reads_163 : decode cX6_reads 163 = .ok (.bipush 10, 2) := by decide +kernel
theorem dX6_reads_165 : decode cX6_reads 165 = .ok (.aload_n 0, 1) := by decide +kernel
theorem dX6_reads_166 : decode cX6_reads 166 = .ok (.getfield 162, 3) := by decide +kernel
theorem dX6_reads_169 : decode cX6_reads 169 = .ok (.imul, 1) := by decide +kernel
theorem dX6_reads_170 : decode cX6_reads 170 = .ok (.aload_n 0, 1) := by decide +kernel
theorem dX6_reads_171 : decode cX6_reads 171 = .ok (.getfield 22, 3) := by decide +kernel
theorem dX6_reads_174 : decode cX6_reads 174 = .ok (.aload_n 0, 1) := by decide +kernel
theorem dX6_reads_175 : decode cX6_reads 175 = .ok (.getfield 151, 3) := by decide +kernel
theorem dX6_reads_178 : decode cX6_reads 178 = .ok (.iaload, 1) := by decide +kernel
theorem dX6_reads_179 : decode cX6_reads 179 = .ok (.iadd, 1) := by decide +kernel
theorem dX6_reads_180 : decode cX6_reads 180 = .ok (.bipush 48, 2) := by decide +kernel
theorem dX6_reads_182 : decode cX6_reads 182 = .ok (.isub, 1) := by decide +kernel
theorem dX6_reads_183 : decode cX6_reads 183 = .ok (.putfield 162, 3) := by decide +kernel
theorem dX6_reads_186 : decode cX6_reads 186 = .ok (.aload_n 0, 1) := by decide +kernel
theorem dX6_reads_187 : decode cX6_reads 187 = .ok (.dup, 1) := by decide +kernel
theorem dX6_reads_188 : decode cX6_reads 188 = .ok (.getfield 151, 3) := by decide +kernel
theorem dX6_reads_191 : decode cX6_reads 191 = .ok (.iconst 1, 1) := by decide +kernel
theorem dX6_reads_192 : decode cX6_reads 192 = .ok (.iadd, 1) := by decide +kernel
theorem dX6_reads_193 : decode cX6_reads 193 = .ok (.putfield 151, 3) := by decide +kernel
theorem dX6_reads_196 : decode cX6_reads 196 = .ok (.goto (-66), 3) := by decide +kernel
theorem dX6_reads_199 : decode cX6_reads 199 = .ok (.aload_n 0, 1) := by decide +kernel
theorem dX6_reads_200 : decode cX6_reads 200 = .ok (.bipush 20, 2) := by decide +kernel
theorem dX6_reads_202 : decode cX6_reads 202 = .ok (.putfield 165, 3) := by decide +kernel
theorem dX6_reads_205 : decode cX6_reads 205 = .ok (.goto 39, 3) := by decide +kernel
theorem dX6_reads_208 : decode cX6_reads 208 = .ok (.aload_n 0, 1) := by decide +kernel
theorem dX6_reads_209 : decode cX6_reads 209 = .ok (.aload_n 0, 1) := by decide +kernel
theorem dX6_reads_210 : decode cX6_reads 210 = .ok (.aload_n 0, 1) := by decide +kernel
theorem dX6_reads_211 : decode cX6_reads 211 = .ok (.getfield 151, 3) := by decide +kernel
theorem dX6_reads_214 : decode cX6_reads 214 = .ok (.bipush 59, 2) := by decide +kernel
theorem dX6_reads_216 : decode cX6_reads 216 = .ok (.bipush 59, 2) := by decide +kernel
theorem dX6_reads_218 : decode cX6_reads 218 = .ok (.invokevirtual 158, 3) := by decide +kernel
theorem dX6_reads_221 : decode cX6_reads 221 = .ok (.ifCond .eq 8, 3) := by decide +kernel
theorem dX6_reads_224 : decode cX6_reads 224 = .ok (.bipush 21, 2) := by decide +kernel
theorem dX6_reads_226 : decode cX6_reads 226 = .ok (.goto 5, 3) := by decide +kernel
theorem dX6_reads_229 : decode cX6_reads 229 = .ok (.bipush 23, 2) := by decide +kernel
theorem dX6_reads_231 : decode cX6_reads 231 = .ok (.putfield 165, 3) := by decide +kernel
theorem dX6_reads_234 : decode cX6_reads 234 = .ok (.aload_n 0, 1) := by decide +kernel
theorem dX6_reads_235 : decode cX6_reads 235 = .ok (.dup, 1) := by decide +kernel
theorem dX6_reads_236 : decode cX6_reads 236 = .ok (.getfield 151, 3) := by decide +kernel
theorem dX6_reads_239 : decode cX6_reads 239 = .ok (.iconst 1, 1) := by decide +kernel
theorem dX6_reads_240 : decode cX6_reads 240 = .ok (.iadd, 1) := by decide +kernel
theorem dX6_reads_241 : decode cX6_reads 241 = .ok (.putfield 151, 3) := by decide +kernel
theorem dX6_reads_244 : decode cX6_reads 244 = .ok (.return_, 1) := by decide +kernel
set_option maxRecDepth 20000 in
theorem ggX6_passes_X6_reads : GoodIn wsX6_passes wsX6_reads := goodIn_r _ [7, 8, 9, 10, 11, 2, 12, 13, 14, 15, 6, 16, 17, 18, 19, 20, 21, 22, 23, 24, 25, 26, 27, 28, 29, 30, 31, 32, 33, 34, 35, 36, 37, 38, 39, 40, 41, 42, 43, 44] (by decide +kernel) (by decide +kernel)
set_option maxRecDepth 20000 in
theorem gX6_passes_X6_reads : GoodIn wsX6_passes (wsV RX6 175 RX6 yX6_reads wsX6_reads) := goodIn_app (goodIn_of _ (by decide +kernel)) ggX6_passes_X6_reads
theorem dX6_passes_0 : decode cX6_passes 0 = .ok (.aload_n 0, 1) := by decide +kernel
theorem dX6_passes_1 : decode cX6_passes 1 = .ok (.getfield 171, 3) := by decide +kernel
theorem dX6_passes_4 : decode cX6_passes 4 = .ok (.ifCond .ne 11, 3) := by decide +kernel
theorem dX6_passes_7 : decode cX6_passes 7 = .ok (.aload_n 0, 1) := by decide +kernel
theorem dX6_passes_8 : decode cX6_passes 8 = .ok (.getfield 165, 3) := by decide +kernel
theorem dX6_passes_11 : decode cX6_passes 11 = .ok (.iload_n 1, 1) := by decide +kernel
theorem dX6_passes_12 : decode cX6_passes 12 = .ok (.if_icmp .eq 5, 3) := by decide +kernel
theorem dX6_passes_15 : decode cX6_passes 15 = .ok (.iconst 0, 1) := by decide +kernel
theorem dX6_passes_16 : decode cX6_passes 16 = .ok (.ireturn, 1) := by decide +kernel
theorem dX6_passes_17 : decode cX6_passes 17 = .ok (.aload_n 0, 1) := by decide +kernel
theorem dX6_passes_18 : decode cX6_passes 18 = .ok (.invokevirtual 175, 3) := by decide +kernel
theorem dX6_passes_21 : decode cX6_passes 21 = .ok (.iconst 1, 1) := by decide +kernel
theorem dX6_passes_22 : decode cX6_passes 22 = .ok (.ireturn, 1) := by decide +kernel
set_option maxRecDepth 20000 in
theorem ggX6_number_X6_in : GoodIn wsX6_number wsX6_in := goodIn_r _ [7] (by decide +kernel) (by decide +kernel)
set_option maxRecDepth 20000 in
theorem gX6_number_X6_in : GoodIn wsX6_number (va_wsS RX6 41 yX6_in wsX6_in) := goodIn_app (goodIn_of _ (by decide +kernel)) ggX6_number_X6_in
set_option maxRecDepth 20000 in
theorem ggX6_number_X6_reads : GoodIn wsX6_number wsX6_reads := goodIn_r _ [11, 12, 13, 1, 14, 3, 15, 16, 17, 18, 6, 19, 4, 5, 7, 20, 21, 22, 23, 24, 25, 26, 27, 28, 29, 30, 31, 32, 33, 34, 35, 36, 37, 38, 39, 40, 41, 42, 43, 44] (by decide +kernel) (by decide +kernel)
set_option maxRecDepth 20000 in
theorem gX6_number_X6_reads : GoodIn wsX6_number (wsV RX6 175 RX6 yX6_reads wsX6_reads) := goodIn_app (goodIn_of _ (by decide +kernel)) ggX6_number_X6_reads
theorem dX6_number_0 : decode cX6_number 0 = .ok (.aload_n 0, 1) := by decide +kernel
theorem dX6_number_1 : decode cX6_number 1 = .ok (.getfield 162, 3) := by decide +kernel
theorem dX6_number_4 : decode cX6_number 4 = .ok (.istore_n 3, 1) := by decide +kernel
theorem dX6_number_5 : decode cX6_number 5 = .ok (.aload_n 0, 1) := by decide +kernel
theorem dX6_number_6 : decode cX6_number 6 = .ok (.aload_n 0, 1) := by decide +kernel
theorem dX6_number_7 : decode cX6_number 7 = .ok (.getfield 171, 3) := by decide +kernel
theorem dX6_number_10 : decode cX6_number 10 = .ok (.ifCond .ne 22, 3) := by decide +kernel
theorem dX6_number_13 : decode cX6_number 13 = .ok (.aload_n 0, 1) := by decide +kernel
theorem dX6_number_14 : decode cX6_number 14 = .ok (.getfield 165, 3) := by decide +kernel
theorem dX6_number_17 : decode cX6_number 17 = .ok (.bipush 20, 2) := by decide +kernel
theorem dX6_number_19 : decode cX6_number 19 = .ok (.if_icmp .ne 13, 3) := by decide +kernel
theorem dX6_number_22 : decode cX6_number 22 = .ok (.iload_n 3, 1) := by decide +kernel
theorem dX6_number_23 : decode cX6_number 23 = .ok (.i2l, 1) := by decide +kernel
theorem dX6_number_24 : decode cX6_number 24 = .ok (.iload_n 1, 1) := by decide +kernel
theorem dX6_number_25 : decode cX6_number 25 = .ok (.iload_n 2, 1) := by decide +kernel
theorem dX6_number_26 : decode cX6_number 26 = .ok (.invokestatic 41, 3) := by decide +kernel
theorem dX6_number_29 : decode cX6_number 29 = .ok (.ifCond .ne 7, 3) := by decide +kernel
theorem dX6_number_32 : decode cX6_number 32 = .ok (.iconst 1, 1) := by decide +kernel
theorem dX6_number_33 : decode cX6_number 33 = .ok (.goto 4, 3) := by decide +kernel
theorem dX6_number_36 : decode cX6_number 36 = .ok (.iconst 0, 1) := by decide +kernel
theorem dX6_number_37 : decode cX6_number 37 = .ok (.putfield 171, 3) := by decide +kernel
theorem dX6_number_40 : decode cX6_number 40 = .ok (.aload_n 0, 1) := by decide +kernel
theorem dX6_number_41 : decode cX6_number 41 = .ok (.getfield 171, 3) := by decide +kernel
theorem dX6_number_44 : decode cX6_number 44 = .ok (.ifCond .ne 7, 3) := by decide +kernel
theorem dX6_number_47 : decode cX6_number 47 = .ok (.aload_n 0, 1) := by decide +kernel
theorem dX6_number_48 : decode cX6_number 48 = .ok (.invokevirtual 175, 3) := by decide +kernel
theorem dX6_number_51 : decode cX6_number 51 = .ok (.iload_n 3, 1) := by decide +kernel
theorem dX6_number_52 : decode cX6_number 52 = .ok (.ireturn, 1) := by decide +kernel
set_option maxRecDepth 20000 in
theorem ggX6_perhaps_X6_passes : GoodIn wsX6_perhaps wsX6_passes := goodIn_r _ [5, 6, 7, 8, 9, 10, 4, 11, 12, 13, 14, 15, 16, 17, 18, 19, 20, 21, 22, 23, 24, 25, 26, 27, 28, 29, 30, 31, 32, 37, 38, 39, 40, 41, 42, 43, 44, 45, 46, 47, 48, 49, 50, 51, 52] (by decide +kernel) (by decide +kernel)
set_option maxRecDepth 20000 in
theorem gX6_perhaps_X6_passes : GoodIn wsX6_perhaps (wsV RX6 178 RX6 yX6_passes wsX6_passes) := goodIn_app (goodIn_of _ (by decide +kernel)) ggX6_perhaps_X6_passes
set_option maxRecDepth 20000 in
theorem ggX6_perhaps_X6_number : GoodIn wsX6_perhaps wsX6_number := goodIn_r _ [36, 14, 6, 7, 21, 22, 4, 23, 8, 9, 10, 11, 12, 13, 15, 16, 17, 18, 19, 20, 24, 25, 26, 27, 28, 29, 30, 31, 32, 37, 38, 39, 40, 41, 42, 43, 44, 45, 46, 47, 48, 49, 50, 51, 52] (by decide +kernel) (by decide +kernel)
set_option maxRecDepth 20000 in
theorem gX6_perhaps_X6_number : GoodIn wsX6_perhaps (wsV RX6 181 RX6 yX6_number wsX6_number) := goodIn_app (goodIn_of _ (by decide +kernel)) ggX6_perhaps_X6_number
theorem dX6_perhaps_0 : decode cX6_perhaps 0 = .ok (.aload_n 0, 1) := by decide +kernel
theorem dX6_perhaps_1 : decode cX6_perhaps 1 = .ok (.iload_n 1, 1) := by decide +kernel
theorem dX6_perhaps_2 : decode cX6_perhaps 2 = .ok (.invokevirtual 178, 3) := by decide +kernel
theorem dX6_perhaps_5 : decode cX6_perhaps 5 = .ok (.ifCond .eq 12, 3) := by decide +kernel
theorem dX6_perhaps_8 : decode cX6_perhaps 8 = .ok (.aload_n 0, 1) := by decide +kernel
theorem dX6_perhaps_9 : decode cX6_perhaps 9 = .ok (.iload_n 2, 1) := by decide +kernel
theorem dX6_perhaps_10 : decode cX6_perhaps 10 = .ok (.iload_n 3, 1) := by decide +kernel
theorem dX6_perhaps_11 : decode cX6_perhaps 11 = .ok (.invokevirtual 181, 3) := by decide +kernel
theorem dX6_perhaps_14 : decode cX6_perhaps 14 = .ok (.goto 5, 3) := by decide +kernel
theorem dX6_perhaps_17 : decode cX6_perhaps 17 = .ok (.iload 4, 2) := by decide +kernel
theorem dX6_perhaps_19 : decode cX6_perhaps 19 = .ok (.ireturn, 1) := by decide +kernel
set_option maxRecDepth 20000 in
theorem ggX6_partItem_X6_reads : GoodIn wsX6_partItem wsX6_reads := goodIn_r _ [8, 9, 10, 11, 12, 1, 13, 14, 15, 16, 7, 17, 18, 19, 20, 21, 22, 23, 24, 25, 26, 27, 28, 29, 50, 51, 52, 53, 54, 55, 56, 57, 58, 59, 60, 61, 62, 63, 64, 65] (by decide +kernel) (by decide +kernel)
set_option maxRecDepth 20000 in
theorem gX6_partItem_X6_reads : GoodIn wsX6_partItem (wsV RX6 175 RX6 yX6_reads wsX6_reads) := goodIn_app (goodIn_of _ (by decide +kernel)) ggX6_partItem_X6_reads
set_option maxRecDepth 20000 in
theorem ggX6_partItem_X6_number : GoodIn wsX6_partItem wsX6_number := goodIn_r _ [33, 11, 3, 1, 18, 19, 7, 20, 4, 5, 6, 8, 9, 10, 12, 13, 14, 15, 16, 17, 21, 22, 23, 24, 25, 26, 27, 28, 29, 50, 51, 52, 53, 54, 55, 56, 57, 58, 59, 60, 61, 62, 63, 64, 65] (by decide +kernel) (by decide +kernel)
set_option maxRecDepth 20000 in
theorem gX6_partItem_X6_number : GoodIn wsX6_partItem (wsV RX6 181 RX6 yX6_number wsX6_number) := goodIn_app (goodIn_of _ (by decide +kernel)) ggX6_partItem_X6_number
set_option maxRecDepth 20000 in
theorem ggX6_partItem_X6_perhaps : GoodIn wsX6_partItem wsX6_perhaps := goodIn_r _ [37, 38, 39, 40, 7, 41, 3, 1, 4, 5, 6, 8, 9, 10, 11, 12, 13, 14, 15, 16, 17, 18, 19, 20, 21, 22, 23, 24, 25, 26, 27, 28, 29, 30, 31, 32, 33, 50, 51, 52, 53, 54, 55, 56, 57, 58, 59, 60, 61, 62, 63, 64, 65] (by decide +kernel) (by decide +kernel)
set_option maxRecDepth 20000 in
theorem gX6_partItem_X6_perhaps : GoodIn wsX6_partItem (wsV RX6 184 RX6 yX6_perhaps wsX6_perhaps) := goodIn_app (goodIn_of _ (by decide +kernel)) ggX6_partItem_X6_perhaps
set_option maxRecDepth 20000 in
theorem ggX6_partItem_X6_comesAs : GoodIn wsX6_partItem wsX6_comesAs := goodIn_r _ [45, 2, 46, 47, 48, 7, 49, 50, 51, 52, 53, 54, 55, 56, 57, 58, 59, 60, 61, 62, 63, 64, 65] (by decide +kernel) (by decide +kernel)
set_option maxRecDepth 20000 in
theorem gX6_partItem_X6_comesAs : GoodIn wsX6_partItem (wsV RX6 84 RX6 yX6_comesAs wsX6_comesAs) := goodIn_app (goodIn_of _ (by decide +kernel)) ggX6_partItem_X6_comesAs
theorem dX6_partItem_0 : decode cX6_partItem 0 = .ok (.aload_n 0, 1) := by decide +kernel
theorem dX6_partItem_1 : decode cX6_partItem 1 = .ok (.getfield 165, 3) := by decide +kernel
theorem dX6_partItem_4 : decode cX6_partItem 4 = .ok (.istore_n 1, 1) := by decide +kernel
theorem dX6_partItem_5 : decode cX6_partItem 5 = .ok (.aload_n 0, 1) := by decide +kernel
theorem dX6_partItem_6 : decode cX6_partItem 6 = .ok (.aload_n 0, 1) := by decide +kernel
theorem dX6_partItem_7 : decode cX6_partItem 7 = .ok (.getfield 9, 3) := by decide +kernel
theorem dX6_partItem_10 : decode cX6_partItem 10 = .ok (.iconst 3, 1) := by decide +kernel
theorem dX6_partItem_11 : decode cX6_partItem 11 = .ok (.iaload, 1) := by decide +kernel
theorem dX6_partItem_12 : decode cX6_partItem 12 = .ok (.bipush 8, 2) := by decide +kernel
theorem dX6_partItem_14 : decode cX6_partItem 14 = .ok (.if_icmp .ne 7, 3) := by decide +kernel
theorem dX6_partItem_17 : decode cX6_partItem 17 = .ok (.iconst 1, 1) := by decide +kernel
theorem dX6_partItem_18 : decode cX6_partItem 18 = .ok (.goto 4, 3) := by decide +kernel
theorem dX6_partItem_21 : decode cX6_partItem 21 = .ok (.iconst 0, 1) := by decide +kernel
theorem dX6_partItem_22 : decode cX6_partItem 22 = .ok (.putfield 171, 3) := by decide +kernel
theorem dX6_partItem_25 : decode cX6_partItem 25 = .ok (.aload_n 0, 1) := by decide +kernel
theorem dX6_partItem_26 : decode cX6_partItem 26 = .ok (.getfield 171, 3) := by decide +kernel
theorem dX6_partItem_29 : decode cX6_partItem 29 = .ok (.ifCond .eq 4, 3) := by decide +kernel
theorem dX6_partItem_32 : decode cX6_partItem 32 = .ok (.return_, 1) := by decide +kernel
theorem dX6_partItem_33 : decode cX6_partItem 33 = .ok (.aload_n 0, 1) := by decide +kernel
theorem dX6_partItem_34 : decode cX6_partItem 34 = .ok (.invokevirtual 175, 3) := by decide +kernel
theorem dX6_partItem_37 : decode cX6_partItem 37 = .ok (.aload_n 0, 1) := by decide +kernel
theorem dX6_partItem_38 : decode cX6_partItem 38 = .ok (.iconst 0, 1) := by decide +kernel
theorem dX6_partItem_39 : decode cX6_partItem 39 = .ok (.sipush 9999, 3) := by decide +kernel
theorem dX6_partItem_42 : decode cX6_partItem 42 = .ok (.invokevirtual 181, 3) := by decide +kernel
theorem dX6_partItem_45 : decode cX6_partItem 45 = .ok (.istore_n 2, 1) := by decide +kernel
theorem dX6_partItem_46 : decode cX6_partItem 46 = .ok (.aload_n 0, 1) := by decide +kernel
theorem dX6_partItem_47 : decode cX6_partItem 47 = .ok (.bipush 6, 2) := by decide +kernel
theorem dX6_partItem_49 : decode cX6_partItem 49 = .ok (.iconst 1, 1) := by decide +kernel
theorem dX6_partItem_50 : decode cX6_partItem 50 = .ok (.bipush 99, 2) := by decide +kernel
theorem dX6_partItem_52 : decode cX6_partItem 52 = .ok (.bipush 10, 2) := by decide +kernel
theorem dX6_partItem_54 : decode cX6_partItem 54 = .ok (.invokevirtual 184, 3) := by decide +kernel
theorem dX6_partItem_57 : decode cX6_partItem 57 = .ok (.istore_n 3, 1) := by decide +kernel
theorem dX6_partItem_58 : decode cX6_partItem 58 = .ok (.aload_n 0, 1) := by decide +kernel
theorem dX6_partItem_59 : decode cX6_partItem 59 = .ok (.bipush 7, 2) := by decide +kernel
theorem dX6_partItem_61 : decode cX6_partItem 61 = .ok (.iconst 0, 1) := by decide +kernel
theorem dX6_partItem_62 : decode cX6_partItem 62 = .ok (.bipush 99, 2) := by decide +kernel
theorem dX6_partItem_64 : decode cX6_partItem 64 = .ok (.iconst 0, 1) := by decide +kernel
theorem dX6_partItem_65 : decode cX6_partItem 65 = .ok (.invokevirtual 184, 3) := by decide +kernel
theorem dX6_partItem_68 : decode cX6_partItem 68 = .ok (.istore 4, 2) := by decide +kernel
theorem dX6_partItem_70 : decode cX6_partItem 70 = .ok (.aload_n 0, 1) := by decide +kernel
theorem dX6_partItem_71 : decode cX6_partItem 71 = .ok (.getfield 171, 3) := by decide +kernel
theorem dX6_partItem_74 : decode cX6_partItem 74 = .ok (.ifCond .ne 14, 3) := by decide +kernel
theorem dX6_partItem_77 : decode cX6_partItem 77 = .ok (.aload_n 0, 1) := by decide +kernel
theorem dX6_partItem_78 : decode cX6_partItem 78 = .ok (.iload_n 1, 1) := by decide +kernel
theorem dX6_partItem_79 : decode cX6_partItem 79 = .ok (.iload_n 2, 1) := by decide +kernel
theorem dX6_partItem_80 : decode cX6_partItem 80 = .ok (.iload_n 3, 1) := by decide +kernel
theorem dX6_partItem_81 : decode cX6_partItem 81 = .ok (.iload 4, 2) := by decide +kernel
theorem dX6_partItem_83 : decode cX6_partItem 83 = .ok (.invokevirtual 84, 3) := by decide +kernel
theorem dX6_partItem_86 : decode cX6_partItem 86 = .ok (.istore 5, 2) := by decide +kernel
theorem dX6_partItem_88 : decode cX6_partItem 88 = .ok (.return_, 1) := by decide +kernel
set_option maxRecDepth 20000 in
theorem ggX6_item_X6_partItem : GoodIn wsX6_item wsX6_partItem := goodIn_r _ [8, 1, 3, 2, 9, 10, 11, 7, 12, 13, 14, 15, 16, 17, 18, 19, 20, 21, 22, 23, 24, 25, 26, 27, 28, 29, 30, 31, 32, 33, 34, 35, 36, 37, 38, 39, 40, 41, 42, 43, 44, 45, 46, 47, 48, 49, 50, 51, 52, 53, 54, 55, 56, 57, 58, 59, 60, 61, 62, 63, 64, 65, 66, 67, 68, 69] (by decide +kernel) (by decide +kernel)
set_option maxRecDepth 20000 in
theorem gX6_item_X6_partItem : GoodIn wsX6_item (wsV RX6 187 RX6 yX6_partItem wsX6_partItem) := goodIn_app (goodIn_of _ (by decide +kernel)) ggX6_item_X6_partItem
set_option maxRecDepth 20000 in
theorem ggX6_item_X6_reads : GoodIn wsX6_item wsX6_reads := goodIn_r _ [12, 13, 14, 15, 16, 1, 17, 18, 19, 20, 7, 21, 22, 23, 24, 25, 26, 27, 28, 29, 30, 31, 32, 33, 54, 55, 56, 57, 58, 59, 60, 61, 62, 63, 64, 65, 66, 67, 68, 69] (by decide +kernel) (by decide +kernel)
set_option maxRecDepth 20000 in
theorem gX6_item_X6_reads : GoodIn wsX6_item (wsV RX6 175 RX6 yX6_reads wsX6_reads) := goodIn_app (goodIn_of _ (by decide +kernel)) ggX6_item_X6_reads
set_option maxRecDepth 20000 in
theorem ggX6_item_X6_number : GoodIn wsX6_item wsX6_number := goodIn_r _ [37, 15, 2, 1, 22, 23, 7, 24, 9, 10, 11, 12, 13, 14, 16, 17, 18, 19, 20, 21, 25, 26, 27, 28, 29, 30, 31, 32, 33, 54, 55, 56, 57, 58, 59, 60, 61, 62, 63, 64, 65, 66, 67, 68, 69] (by decide +kernel) (by decide +kernel)
set_option maxRecDepth 20000 in
theorem gX6_item_X6_number : GoodIn wsX6_item (wsV RX6 181 RX6 yX6_number wsX6_number) := goodIn_app (goodIn_of _ (by decide +kernel)) ggX6_item_X6_number
set_option maxRecDepth 20000 in
theorem ggX6_item_X6_passes : GoodIn wsX6_item wsX6_passes := goodIn_r _ [45, 2, 1, 9, 10, 11, 7, 12, 13, 14, 15, 16, 17, 18, 19, 20, 21, 22, 23, 24, 25, 26, 27, 28, 29, 30, 31, 32, 33, 54, 55, 56, 57, 58, 59, 60, 61, 62, 63, 64, 65, 66, 67, 68, 69] (by decide +kernel) (by decide +kernel)
set_option maxRecDepth 20000 in
theorem gX6_item_X6_passes : GoodIn wsX6_item (wsV RX6 178 RX6 yX6_passes wsX6_passes) := goodIn_app (goodIn_of _ (by decide +kernel)) ggX6_item_X6_passes
theorem dX6_item_0 : decode cX6_item 0 = .ok (.aload_n 0, 1) := by decide +kernel
theorem dX6_item_1 : decode cX6_item 1 = .ok (.getfield 165, 3) := by decide +kernel
theorem dX6_item_4 : decode cX6_item 4 = .ok (.iconst 5, 1) := by decide +kernel
theorem dX6_item_5 : decode cX6_item 5 = .ok (.if_icmp .gt 10, 3) := by decide +kernel
theorem dX6_item_8 : decode cX6_item 8 = .ok (.aload_n 0, 1) := by decide +kernel
theorem dX6_item_9 : decode cX6_item 9 = .ok (.invokevirtual 187, 3) := by decide +kernel
theorem dX6_item_12 : decode cX6_item 12 = .ok (.goto 97, 3) := by decide +kernel
theorem dX6_item_15 : decode cX6_item 15 = .ok (.aload_n 0, 1) := by decide +kernel
theorem dX6_item_16 : decode cX6_item 16 = .ok (.getfield 165, 3) := by decide +kernel
theorem dX6_item_19 : decode cX6_item 19 = .ok (.bipush 8, 2) := by decide +kernel
theorem dX6_item_21 : decode cX6_item 21 = .ok (.if_icmp .eq 12, 3) := by decide +kernel
theorem dX6_item_24 : decode cX6_item 24 = .ok (.aload_n 0, 1) := by decide +kernel
theorem dX6_item_25 : decode cX6_item 25 = .ok (.getfield 165, 3) := by decide +kernel
theorem dX6_item_28 : decode cX6_item 28 = .ok (.bipush 9, 2) := by decide +kernel
theorem dX6_item_30 : decode cX6_item 30 = .ok (.if_icmp .ne 49, 3) := by decide +kernel
theorem dX6_item_33 : decode cX6_item 33 = .ok (.aload_n 0, 1) := by decide +kernel
theorem dX6_item_34 : decode cX6_item 34 = .ok (.getfield 165, 3) := by decide +kernel
theorem dX6_item_37 : decode cX6_item 37 = .ok (.bipush 8, 2) := by decide +kernel
theorem dX6_item_39 : decode cX6_item 39 = .ok (.if_icmp .ne 7, 3) := by decide +kernel
theorem dX6_item_42 : decode cX6_item 42 = .ok (.iconst 1, 1) := by decide +kernel
theorem dX6_item_43 : decode cX6_item 43 = .ok (.goto 4, 3) := by decide +kernel
theorem dX6_item_46 : decode cX6_item 46 = .ok (.iconst 0, 1) := by decide +kernel
theorem dX6_item_47 : decode cX6_item 47 = .ok (.istore_n 1, 1) := by decide +kernel
theorem dX6_item_48 : decode cX6_item 48 = .ok (.aload_n 0, 1) := by decide +kernel
theorem dX6_item_49 : decode cX6_item 49 = .ok (.invokevirtual 175, 3) := by decide +kernel
theorem dX6_item_52 : decode cX6_item 52 = .ok (.aload_n 0, 1) := by decide +kernel
theorem dX6_item_53 : decode cX6_item 53 = .ok (.iconst 0, 1) := by decide +kernel
theorem dX6_item_54 : decode cX6_item 54 = .ok (.bipush 6, 2) := by decide +kernel
theorem dX6_item_56 : decode cX6_item 56 = .ok (.invokevirtual 181, 3) := by decide +kernel
theorem dX6_item_59 : decode cX6_item 59 = .ok (.istore_n 2, 1) := by decide +kernel
theorem dX6_item_60 : decode cX6_item 60 = .ok (.aload_n 0, 1) := by decide +kernel
theorem dX6_item_61 : decode cX6_item 61 = .ok (.getfield 171, 3) := by decide +kernel
theorem dX6_item_64 : decode cX6_item 64 = .ok (.ifCond .ne 12, 3) := by decide +kernel
theorem dX6_item_67 : decode cX6_item 67 = .ok (.aload_n 0, 1) := by decide +kernel
theorem dX6_item_68 : decode cX6_item 68 = .ok (.getfield 9, 3) := by decide +kernel
theorem dX6_item_71 : decode cX6_item 71 = .ok (.iconst 4, 1) := by decide +kernel
theorem dX6_item_72 : decode cX6_item 72 = .ok (.iload_n 2, 1) := by decide +kernel
theorem dX6_item_73 : decode cX6_item 73 = .ok (.iadd, 1) := by decide +kernel
theorem dX6_item_74 : decode cX6_item 74 = .ok (.iload_n 1, 1) := by decide +kernel
theorem dX6_item_75 : decode cX6_item 75 = .ok (.iastore, 1) := by decide +kernel
theorem dX6_item_76 : decode cX6_item 76 = .ok (.goto 33, 3) := by decide +kernel
theorem dX6_item_79 : decode cX6_item 79 = .ok (.aload_n 0, 1) := by decide +kernel
theorem dX6_item_80 : decode cX6_item 80 = .ok (.bipush 10, 2) := by decide +kernel
theorem dX6_item_82 : decode cX6_item 82 = .ok (.invokevirtual 178, 3) := by decide +kernel
theorem dX6_item_85 : decode cX6_item 85 = .ok (.ifCond .eq 19, 3) := by decide +kernel
theorem dX6_item_88 : decode cX6_item 88 = .ok (.aload_n 0, 1) := by decide +kernel
theorem dX6_item_89 : decode cX6_item 89 = .ok (.getfield 9, 3) := by decide +kernel
theorem dX6_item_92 : decode cX6_item 92 = .ok (.iconst 1, 1) := by decide +kernel
theorem dX6_item_93 : decode cX6_item 93 = .ok (.aload_n 0, 1) := by decide +kernel
theorem dX6_item_94 : decode cX6_item 94 = .ok (.iconst 0, 1) := by decide +kernel
theorem dX6_item_95 : decode cX6_item 95 = .ok (.bipush 99, 2) := by decide +kernel
theorem dX6_item_97 : decode cX6_item 97 = .ok (.invokevirtual 181, 3) := by decide +kernel
theorem dX6_item_100 : decode cX6_item 100 = .ok (.iastore, 1) := by decide +kernel
theorem dX6_item_101 : decode cX6_item 101 = .ok (.goto 8, 3) := by decide +kernel
theorem dX6_item_104 : decode cX6_item 104 = .ok (.aload_n 0, 1) := by decide +kernel
theorem dX6_item_105 : decode cX6_item 105 = .ok (.iconst 1, 1) := by decide +kernel
theorem dX6_item_106 : decode cX6_item 106 = .ok (.putfield 171, 3) := by decide +kernel
theorem dX6_item_109 : decode cX6_item 109 = .ok (.return_, 1) := by decide +kernel
set_option maxRecDepth 20000 in
theorem ggX6_nursery_X6_thinks : GoodIn wsX6_nursery wsX6_thinks := goodIn_r _ [10, 11, 12, 13, 14, 9, 15, 70, 71, 72, 73, 74, 75, 76, 77, 78, 79, 80, 81, 82, 83, 84, 85] (by decide +kernel) (by decide +kernel)
set_option maxRecDepth 20000 in
theorem gX6_nursery_X6_thinks : GoodIn wsX6_nursery (wsV RX6 118 RX6 yX6_thinks wsX6_thinks) := goodIn_app (goodIn_of _ (by decide +kernel)) ggX6_nursery_X6_thinks
set_option maxRecDepth 20000 in
theorem ggX6_nursery_X6_reads : GoodIn wsX6_nursery wsX6_reads := goodIn_r _ [19, 1, 5, 20, 4, 3, 21, 22, 23, 24, 9, 25, 26, 27, 28, 29, 30, 31, 32, 33, 34, 35, 36, 37, 70, 71, 72, 73, 74, 75, 76, 77, 78, 79, 80, 81, 82, 83, 84, 85] (by decide +kernel) (by decide +kernel)
set_option maxRecDepth 20000 in
theorem gX6_nursery_X6_reads : GoodIn wsX6_nursery (wsV RX6 175 RX6 yX6_reads wsX6_reads) := goodIn_app (goodIn_of _ (by decide +kernel)) ggX6_nursery_X6_reads
set_option maxRecDepth 20000 in
theorem ggX6_nursery_X6_item : GoodIn wsX6_nursery wsX6_item := goodIn_r _ [41, 3, 2, 11, 42, 43, 44, 9, 45, 16, 17, 18, 19, 1, 5, 20, 4, 21, 22, 23, 24, 25, 26, 27, 28, 29, 30, 31, 32, 33, 34, 35, 36, 37, 46, 47, 48, 49, 50, 51, 52, 53, 54, 55, 56, 57, 58, 59, 60, 61, 62, 63, 64, 65, 70, 71, 72, 73, 74, 75, 76, 77, 78, 79, 80, 81, 82, 83, 84, 85] (by decide +kernel) (by decide +kernel)
set_option maxRecDepth 20000 in
theorem gX6_nursery_X6_item : GoodIn wsX6_nursery (wsV RX6 190 RX6 yX6_item wsX6_item) := goodIn_app (goodIn_of _ (by decide +kernel)) ggX6_nursery_X6_item
set_option maxRecDepth 20000 in
theorem ggX6_nursery_X6_passes : GoodIn wsX6_nursery wsX6_passes := goodIn_r _ [57, 2, 3, 16, 17, 18, 9, 19, 1, 5, 20, 4, 21, 22, 23, 24, 25, 26, 27, 28, 29, 30, 31, 32, 33, 34, 35, 36, 37, 70, 71, 72, 73, 74, 75, 76, 77, 78, 79, 80, 81, 82, 83, 84, 85] (by decide +kernel) (by decide +kernel)
set_option maxRecDepth 20000 in
theorem gX6_nursery_X6_passes : GoodIn wsX6_nursery (wsV RX6 178 RX6 yX6_passes wsX6_passes) := goodIn_app (goodIn_of _ (by decide +kernel)) ggX6_nursery_X6_passes
set_option maxRecDepth 20000 in
theorem ggX6_nursery_X6_putsBack : GoodIn wsX6_nursery wsX6_putsBack := goodIn_r _ [69, 12, 11, 13, 14, 9, 15, 70, 71, 72, 73, 74, 75, 76, 77, 78, 79, 80, 81, 82, 83, 84, 85] (by decide +kernel) (by decide +kernel)
set_option maxRecDepth 20000 in
theorem gX6_nursery_X6_putsBack : GoodIn wsX6_nursery (wsV RX6 121 RX6 yX6_putsBack wsX6_putsBack) := goodIn_app (goodIn_of _ (by decide +kernel)) ggX6_nursery_X6_putsBack
theorem dX6_nursery_0 : decode cX6_nursery 0 = .ok (.aload_n 0, 1) := by decide +kernel
theorem dX6_nursery_1 : decode cX6_nursery 1 = .ok (.invokevirtual 118, 3) := by decide +kernel
theorem dX6_nursery_4 : decode cX6_nursery 4 = .ok (.aload_n 0, 1) := by decide +kernel
theorem dX6_nursery_5 : decode cX6_nursery 5 = .ok (.iconst 0, 1) := by decide +kernel
theorem dX6_nursery_6 : decode cX6_nursery 6 = .ok (.putfield 151, 3) := by decide +kernel
theorem dX6_nursery_9 : decode cX6_nursery 9 = .ok (.aload_n 0, 1) := by decide +kernel
theorem dX6_nursery_10 : decode cX6_nursery 10 = .ok (.iconst 0, 1) := by decide +kernel
theorem dX6_nursery_11 : decode cX6_nursery 11 = .ok (.putfield 171, 3) := by decide +kernel
theorem dX6_nursery_14 : decode cX6_nursery 14 = .ok (.aload_n 0, 1) := by decide +kernel
theorem dX6_nursery_15 : decode cX6_nursery 15 = .ok (.invokevirtual 175, 3) := by decide +kernel
theorem dX6_nursery_18 : decode cX6_nursery 18 = .ok (.aload_n 0, 1) := by decide +kernel
theorem dX6_nursery_19 : decode cX6_nursery 19 = .ok (.invokevirtual 190, 3) := by decide +kernel
theorem dX6_nursery_22 : decode cX6_nursery 22 = .ok (.iconst 1, 1) := by decide +kernel
theorem dX6_nursery_23 : decode cX6_nursery 23 = .ok (.istore_n 1, 1) := by decide +kernel
theorem dX6_nursery_24 : decode cX6_nursery 24 = .ok (.aload_n 0, 1) := by decide +kernel
theorem dX6_nursery_25 : decode cX6_nursery 25 = .ok (.bipush 21, 2) := by decide +kernel
theorem dX6_nursery_27 : decode cX6_nursery 27 = .ok (.invokevirtual 178, 3) := by decide +kernel
theorem dX6_nursery_30 : decode cX6_nursery 30 = .ok (.ifCond .eq 13, 3) := by decide +kernel
theorem dX6_nursery_33 : decode cX6_nursery 33 = .ok (.aload_n 0, 1) := by decide +kernel
theorem dX6_nursery_34 : decode cX6_nursery 34 = .ok (.invokevirtual 190, 3) := by decide +kernel
theorem dX6_nursery_37 : decode cX6_nursery 37 = .ok (.iinc 1 1, 3) := by decide +kernel
theorem dX6_nursery_40 : decode cX6_nursery 40 = .ok (.goto (-16), 3) := by decide +kernel
theorem dX6_nursery_43 : decode cX6_nursery 43 = .ok (.aload_n 0, 1) := by decide +kernel
theorem dX6_nursery_44 : decode cX6_nursery 44 = .ok (.aload_n 0, 1) := by decide +kernel
theorem dX6_nursery_45 : decode cX6_nursery 45 = .ok (.getfield 171, 3) := by decide +kernel
theorem dX6_nursery_48 : decode cX6_nursery 48 = .ok (.ifCond .ne 12, 3) := by decide +kernel
theorem dX6_nursery_51 : decode cX6_nursery 51 = .ok (.aload_n 0, 1) := by decide +kernel
theorem dX6_nursery_52 : decode cX6_nursery 52 = .ok (.getfield 165, 3) := by decide +kernel
theorem dX6_nursery_55 : decode cX6_nursery 55 = .ok (.bipush 22, 2) := by decide +kernel
theorem dX6_nursery_57 : decode cX6_nursery 57 = .ok (.if_icmp .eq 7, 3) := by decide +kernel
theorem dX6_nursery_60 : decode cX6_nursery 60 = .ok (.iconst 1, 1) := by decide +kernel
theorem dX6_nursery_61 : decode cX6_nursery 61 = .ok (.goto 4, 3) := by decide +kernel
theorem dX6_nursery_64 : decode cX6_nursery 64 = .ok (.iconst 0, 1) := by decide +kernel
theorem dX6_nursery_65 : decode cX6_nursery 65 = .ok (.putfield 171, 3) := by decide +kernel
theorem dX6_nursery_68 : decode cX6_nursery 68 = .ok (.aload_n 0, 1) := by decide +kernel
theorem dX6_nursery_69 : decode cX6_nursery 69 = .ok (.iconst 0, 1) := by decide +kernel
theorem dX6_nursery_70 : decode cX6_nursery 70 = .ok (.putfield 142, 3) := by decide +kernel
theorem dX6_nursery_73 : decode cX6_nursery 73 = .ok (.aload_n 0, 1) := by decide +kernel
theorem dX6_nursery_74 : decode cX6_nursery 74 = .ok (.getfield 171, 3) := by decide +kernel
theorem dX6_nursery_77 : decode cX6_nursery 77 = .ok (.ifCond .ne 5, 3) := by decide +kernel
theorem dX6_nursery_80 : decode cX6_nursery 80 = .ok (.iload_n 1, 1) := by decide +kernel
theorem dX6_nursery_81 : decode cX6_nursery 81 = .ok (.ireturn, 1) := by decide +kernel
theorem dX6_nursery_82 : decode cX6_nursery 82 = .ok (.aload_n 0, 1) := by decide +kernel
theorem dX6_nursery_83 : decode cX6_nursery 83 = .ok (.invokevirtual 121, 3) := by decide +kernel
theorem dX6_nursery_86 : decode cX6_nursery 86 = .ok (.iconst (-1), 1) := by decide +kernel
theorem dX6_nursery_87 : decode cX6_nursery 87 = .ok (.aload_n 0, 1) := by decide +kernel
theorem dX6_nursery_88 : decode cX6_nursery 88 = .ok (.getfield 148, 3) := by decide +kernel
theorem dX6_nursery_91 : decode cX6_nursery 91 = .ok (.isub, 1) := by decide +kernel
theorem dX6_nursery_92 : decode cX6_nursery 92 = .ok (.ireturn, 1) := by decide +kernel
set_option maxRecDepth 20000 in
theorem ggX6_isSheet_X6_in : GoodIn wsX6_isSheet wsX6_in := goodIn_r _ [4] (by decide +kernel) (by decide +kernel)
set_option maxRecDepth 20000 in
theorem gX6_isSheet_X6_in : GoodIn wsX6_isSheet (va_wsS RX6 41 yX6_in wsX6_in) := goodIn_app (goodIn_of _ (by decide +kernel)) ggX6_isSheet_X6_in
theorem dX6_isSheet_0 : decode cX6_isSheet 0 = .ok (.iload_n 0, 1) := by decide +kernel
theorem dX6_isSheet_1 : decode cX6_isSheet 1 = .ok (.i2l, 1) := by decide +kernel
theorem dX6_isSheet_2 : decode cX6_isSheet 2 = .ok (.iconst 0, 1) := by decide +kernel
theorem dX6_isSheet_3 : decode cX6_isSheet 3 = .ok (.iconst 3, 1) := by decide +kernel
theorem dX6_isSheet_4 : decode cX6_isSheet 4 = .ok (.invokestatic 41, 3) := by decide +kernel
theorem dX6_isSheet_7 : decode cX6_isSheet 7 = .ok (.ireturn, 1) := by decide +kernel
set_option maxRecDepth 20000 in
theorem ggX6_sheet_X6_isSheet : GoodIn wsX6_sheet wsX6_isSheet := goodIn_r _ [9, 10, 11, 8, 12] (by decide +kernel) (by decide +kernel)
set_option maxRecDepth 20000 in
theorem gX6_sheet_X6_isSheet : GoodIn wsX6_sheet (va_wsS RX6 193 yX6_isSheet wsX6_isSheet) := goodIn_app (goodIn_of _ (by decide +kernel)) ggX6_sheet_X6_isSheet
set_option maxRecDepth 20000 in
theorem ggX6_sheet_X6_finds : GoodIn wsX6_sheet wsX6_finds := goodIn_r _ [16, 17, 1, 18, 19, 20, 21, 22, 23, 24, 25, 26, 27, 28, 29, 30, 31, 32, 33] (by decide +kernel) (by decide +kernel)
set_option maxRecDepth 20000 in
theorem gX6_sheet_X6_finds : GoodIn wsX6_sheet (wsV RX6 37 RX6 yX6_finds wsX6_finds) := goodIn_app (goodIn_of _ (by decide +kernel)) ggX6_sheet_X6_finds
theorem dX6_sheet_0 : decode cX6_sheet 0 = .ok (.iload_n 1, 1) := by decide +kernel
theorem dX6_sheet_1 : decode cX6_sheet 1 = .ok (.invokestatic 193, 3) := by decide +kernel
theorem dX6_sheet_4 : decode cX6_sheet 4 = .ok (.ifCond .eq 25, 3) := by decide +kernel
theorem dX6_sheet_7 : decode cX6_sheet 7 = .ok (.iload_n 2, 1) := by decide +kernel
theorem dX6_sheet_8 : decode cX6_sheet 8 = .ok (.ifCond .eq 28, 3) := by decide +kernel
theorem dX6_sheet_11 : decode cX6_sheet 11 = .ok (.iload_n 2, 1) := by decide +kernel
theorem dX6_sheet_12 : decode cX6_sheet 12 = .ok (.bipush 8, 2) := by decide +kernel
theorem dX6_sheet_14 : decode cX6_sheet 14 = .ok (.if_icmp .eq 22, 3) := by decide +kernel
theorem dX6_sheet_17 : decode cX6_sheet 17 = .ok (.iload_n 2, 1) := by decide +kernel
theorem dX6_sheet_18 : decode cX6_sheet 18 = .ok (.bipush 16, 2) := by decide +kernel
theorem dX6_sheet_20 : decode cX6_sheet 20 = .ok (.if_icmp .eq 16, 3) := by decide +kernel
theorem dX6_sheet_23 : decode cX6_sheet 23 = .ok (.iload_n 2, 1) := by decide +kernel
theorem dX6_sheet_24 : decode cX6_sheet 24 = .ok (.bipush 64, 2) := by decide +kernel
theorem dX6_sheet_26 : decode cX6_sheet 26 = .ok (.if_icmp .eq 10, 3) := by decide +kernel
theorem dX6_sheet_29 : decode cX6_sheet 29 = .ok (.aload_n 0, 1) := by decide +kernel
theorem dX6_sheet_30 : decode cX6_sheet 30 = .ok (.ldc 35, 2) := by decide +kernel
theorem dX6_sheet_32 : decode cX6_sheet 32 = .ok (.invokevirtual 37, 3) := by decide +kernel
theorem dX6_sheet_35 : decode cX6_sheet 35 = .ok (.ireturn, 1) := by decide +kernel
theorem dX6_sheet_36 : decode cX6_sheet 36 = .ok (.iload_n 3, 1) := by decide +kernel
theorem dX6_sheet_37 : decode cX6_sheet 37 = .ok (.ifCond .ge 10, 3) := by decide +kernel
theorem dX6_sheet_40 : decode cX6_sheet 40 = .ok (.aload_n 0, 1) := by decide +kernel
theorem dX6_sheet_41 : decode cX6_sheet 41 = .ok (.ldc 196, 2) := by decide +kernel
theorem dX6_sheet_43 : decode cX6_sheet 43 = .ok (.invokevirtual 37, 3) := by decide +kernel
theorem dX6_sheet_46 : decode cX6_sheet 46 = .ok (.ireturn, 1) := by decide +kernel
theorem dX6_sheet_47 : decode cX6_sheet 47 = .ok (.iload_n 3, 1) := by decide +kernel
theorem dX6_sheet_48 : decode cX6_sheet 48 = .ok (.bipush 40, 2) := by decide +kernel
theorem dX6_sheet_50 : decode cX6_sheet 50 = .ok (.if_icmp .le 10, 3) := by decide +kernel
theorem dX6_sheet_53 : decode cX6_sheet 53 = .ok (.aload_n 0, 1) := by decide +kernel
theorem dX6_sheet_54 : decode cX6_sheet 54 = .ok (.ldc 35, 2) := by decide +kernel
theorem dX6_sheet_56 : decode cX6_sheet 56 = .ok (.invokevirtual 37, 3) := by decide +kernel
theorem dX6_sheet_59 : decode cX6_sheet 59 = .ok (.ireturn, 1) := by decide +kernel
theorem dX6_sheet_60 : decode cX6_sheet 60 = .ok (.aload_n 0, 1) := by decide +kernel
theorem dX6_sheet_61 : decode cX6_sheet 61 = .ok (.getfield 25, 3) := by decide +kernel
theorem dX6_sheet_64 : decode cX6_sheet 64 = .ok (.iload_n 1, 1) := by decide +kernel
theorem dX6_sheet_65 : decode cX6_sheet 65 = .ok (.iload_n 2, 1) := by decide +kernel
theorem dX6_sheet_66 : decode cX6_sheet 66 = .ok (.iastore, 1) := by decide +kernel
theorem dX6_sheet_67 : decode cX6_sheet 67 = .ok (.aload_n 0, 1) := by decide +kernel
theorem dX6_sheet_68 : decode cX6_sheet 68 = .ok (.getfield 28, 3) := by decide +kernel
theorem dX6_sheet_71 : decode cX6_sheet 71 = .ok (.iload_n 1, 1) := by decide +kernel
theorem dX6_sheet_72 : decode cX6_sheet 72 = .ok (.iload_n 2, 1) := by decide +kernel
theorem dX6_sheet_73 : decode cX6_sheet 73 = .ok (.ifCond .ne 7, 3) := by decide +kernel
theorem dX6_sheet_76 : decode cX6_sheet 76 = .ok (.iconst 0, 1) := by decide +kernel
theorem dX6_sheet_77 : decode cX6_sheet 77 = .ok (.goto 4, 3) := by decide +kernel
theorem dX6_sheet_80 : decode cX6_sheet 80 = .ok (.iload_n 3, 1) := by decide +kernel
theorem dX6_sheet_81 : decode cX6_sheet 81 = .ok (.iastore, 1) := by decide +kernel
theorem dX6_sheet_82 : decode cX6_sheet 82 = .ok (.iconst 0, 1) := by decide +kernel
theorem dX6_sheet_83 : decode cX6_sheet 83 = .ok (.istore 4, 2) := by decide +kernel
theorem dX6_sheet_85 : decode cX6_sheet 85 = .ok (.iload 4, 2) := by decide +kernel
theorem dX6_sheet_87 : decode cX6_sheet 87 = .ok (.bipush 40, 2) := by decide +kernel
theorem dX6_sheet_89 : decode cX6_sheet 89 = .ok (.if_icmp .ge 22, 3) := by decide +kernel
theorem dX6_sheet_92 : decode cX6_sheet 92 = .ok (.aload_n 0, 1) := by decide +kernel
theorem dX6_sheet_93 : decode cX6_sheet 93 = .ok (.getfield 31, 3) := by decide +kernel
theorem dX6_sheet_96 : decode cX6_sheet 96 = .ok (.bipush 40, 2) := by decide +kernel
theorem dX6_sheet_98 : decode cX6_sheet 98 = .ok (.iload_n 1, 1) := by decide +kernel
theorem dX6_sheet_99 : decode cX6_sheet 99 = .ok (.imul, 1) := by decide +kernel
theorem dX6_sheet_100 : decode cX6_sheet 100 = .ok (.iload 4, 2) := by decide +kernel
theorem dX6_sheet_102 : decode cX6_sheet 102 = .ok (.iadd, 1) := by decide +kernel
theorem dX6_sheet_103 : decode cX6_sheet 103 = .ok (.lconst 0, 1) := by decide +kernel
theorem dX6_sheet_104 : decode cX6_sheet 104 = .ok (.lastore, 1) := by decide +kernel
theorem dX6_sheet_105 : decode cX6_sheet 105 = .ok (.iinc 4 1, 3) := by decide +kernel
theorem dX6_sheet_108 : decode cX6_sheet 108 = .ok (.goto (-23), 3) := by decide +kernel
theorem dX6_sheet_111 : decode cX6_sheet 111 = .ok (.aload_n 0, 1) := by decide +kernel
theorem dX6_sheet_112 : decode cX6_sheet 112 = .ok (.getfield 28, 3) := by decide +kernel
theorem dX6_sheet_115 : decode cX6_sheet 115 = .ok (.iload_n 1, 1) := by decide +kernel
theorem dX6_sheet_116 : decode cX6_sheet 116 = .ok (.iaload, 1) := by decide +kernel
theorem dX6_sheet_117 : decode cX6_sheet 117 = .ok (.ireturn, 1) := by decide +kernel
set_option maxRecDepth 20000 in
theorem ggX6_notThere_X6_isSheet : GoodIn wsX6_notThere wsX6_isSheet := goodIn_r _ [7, 8, 9, 6, 10] (by decide +kernel) (by decide +kernel)
set_option maxRecDepth 20000 in
theorem gX6_notThere_X6_isSheet : GoodIn wsX6_notThere (va_wsS RX6 193 yX6_isSheet wsX6_isSheet) := goodIn_app (goodIn_of _ (by decide +kernel)) ggX6_notThere_X6_isSheet
theorem dX6_notThere_0 : decode cX6_notThere 0 = .ok (.iload_n 1, 1) := by decide +kernel
theorem dX6_notThere_1 : decode cX6_notThere 1 = .ok (.invokestatic 193, 3) := by decide +kernel
theorem dX6_notThere_4 : decode cX6_notThere 4 = .ok (.ifCond .ne 8, 3) := by decide +kernel
theorem dX6_notThere_7 : decode cX6_notThere 7 = .ok (.ldc 35, 2) := by decide +kernel
theorem dX6_notThere_9 : decode cX6_notThere 9 = .ok (.goto 18, 3) := by decide +kernel
theorem dX6_notThere_12 : decode cX6_notThere 12 = .ok (.aload_n 0, 1) := by decide +kernel
theorem dX6_notThere_13 : decode cX6_notThere 13 = .ok (.getfield 25, 3) := by decide +kernel
theorem dX6_notThere_16 : decode cX6_notThere 16 = .ok (.iload_n 1, 1) := by decide +kernel
theorem dX6_notThere_17 : decode cX6_notThere 17 = .ok (.iaload, 1) := by decide +kernel
theorem dX6_notThere_18 : decode cX6_notThere 18 = .ok (.ifCond .ne 8, 3) := by decide +kernel
theorem dX6_notThere_21 : decode cX6_notThere 21 = .ok (.ldc 197, 2) := by decide +kernel
theorem dX6_notThere_23 : decode cX6_notThere 23 = .ok (.goto 4, 3) := by decide +kernel
theorem dX6_notThere_26 : decode cX6_notThere 26 = .ok (.iconst 0, 1) := by decide +kernel
theorem dX6_notThere_27 : decode cX6_notThere 27 = .ok (.ireturn, 1) := by decide +kernel
theorem dX6_cutTo_0 : decode cX6_cutTo 0 = .ok (.iload_n 0, 1) := by decide +kernel
theorem dX6_cutTo_1 : decode cX6_cutTo 1 = .ok (.bipush 8, 2) := by decide +kernel
theorem dX6_cutTo_3 : decode cX6_cutTo 3 = .ok (.if_icmp .ne 10, 3) := by decide +kernel
theorem dX6_cutTo_6 : decode cX6_cutTo 6 = .ok (.lload_n 1, 1) := by decide +kernel
theorem dX6_cutTo_7 : decode cX6_cutTo 7 = .ok (.l2i, 1) := by decide +kernel
theorem dX6_cutTo_8 : decode cX6_cutTo 8 = .ok (.i2b, 1) := by decide +kernel
theorem dX6_cutTo_9 : decode cX6_cutTo 9 = .ok (.i2l, 1) := by decide +kernel
theorem dX6_cutTo_10 : decode cX6_cutTo 10 = .ok (.goto 17, 3) := by decide +kernel
theorem dX6_cutTo_13 : decode cX6_cutTo 13 = .ok (.iload_n 0, 1) := by decide +kernel
theorem dX6_cutTo_14 : decode cX6_cutTo 14 = .ok (.bipush 16, 2) := by decide +kernel
theorem dX6_cutTo_16 : decode cX6_cutTo 16 = .ok (.if_icmp .ne 10, 3) := by decide +kernel
theorem dX6_cutTo_19 : decode cX6_cutTo 19 = .ok (.lload_n 1, 1) := by decide +kernel
theorem dX6_cutTo_20 : decode cX6_cutTo 20 = .ok (.l2i, 1) := by decide +kernel
theorem dX6_cutTo_21 : decode cX6_cutTo 21 = .ok (.i2s, 1) := by decide +kernel
theorem dX6_cutTo_22 : decode cX6_cutTo 22 = .ok (.i2l, 1) := by decide +kernel
theorem dX6_cutTo_23 : decode cX6_cutTo 23 = .ok (.goto 4, 3) := by decide +kernel
theorem dX6_cutTo_26 : decode cX6_cutTo 26 = .ok (.lload_n 1, 1) := by decide +kernel
theorem dX6_cutTo_27 : decode cX6_cutTo 27 = .ok (.lreturn, 1) := by decide +kernel
set_option maxRecDepth 20000 in
theorem ggX6_write_X6_notThere : GoodIn wsX6_write wsX6_notThere := goodIn_r _ [9, 2, 4, 10, 11, 12, 8, 13, 14, 15, 16, 25, 26, 27, 28, 29, 30, 31, 32, 33, 34, 35, 36, 37, 38, 39, 40] (by decide +kernel) (by decide +kernel)
set_option maxRecDepth 20000 in
theorem gX6_write_X6_notThere : GoodIn wsX6_write (wsV RX6 198 RX6 yX6_notThere wsX6_notThere) := goodIn_app (goodIn_of _ (by decide +kernel)) ggX6_write_X6_notThere
set_option maxRecDepth 20000 in
theorem ggX6_write_X6_in : GoodIn wsX6_write wsX6_in := goodIn_r _ [16] (by decide +kernel) (by decide +kernel)
set_option maxRecDepth 20000 in
theorem gX6_write_X6_in : GoodIn wsX6_write (va_wsS RX6 41 yX6_in wsX6_in) := goodIn_app (goodIn_of _ (by decide +kernel)) ggX6_write_X6_in
set_option maxRecDepth 20000 in
theorem ggX6_write_X6_finds : GoodIn wsX6_write wsX6_finds := goodIn_r _ [20, 21, 2, 25, 26, 27, 28, 29, 30, 31, 32, 33, 34, 35, 36, 37, 38, 39, 40] (by decide +kernel) (by decide +kernel)
set_option maxRecDepth 20000 in
theorem gX6_write_X6_finds : GoodIn wsX6_write (wsV RX6 37 RX6 yX6_finds wsX6_finds) := goodIn_app (goodIn_of _ (by decide +kernel)) ggX6_write_X6_finds
set_option maxRecDepth 20000 in
theorem ggX6_write_X6_cutTo : GoodIn wsX6_write wsX6_cutTo := goodIn_r _ [24] (by decide +kernel) (by decide +kernel)
set_option maxRecDepth 20000 in
theorem gX6_write_X6_cutTo : GoodIn wsX6_write (va_wsS RX6 201 yX6_cutTo wsX6_cutTo) := goodIn_app (goodIn_of _ (by decide +kernel)) ggX6_write_X6_cutTo
theorem dX6_write_0 : decode cX6_write 0 = .ok (.aload_n 0, 1) := by decide +kernel
theorem dX6_write_1 : decode cX6_write 1 = .ok (.iload_n 1, 1) := by decide +kernel
theorem dX6_write_2 : decode cX6_write 2 = .ok (.invokevirtual 198, 3) := by decide +kernel
theorem dX6_write_5 : decode cX6_write 5 = .ok (.istore 5, 2) := by decide +kernel
theorem dX6_write_7 : decode cX6_write 7 = .ok (.iload 5, 2) := by decide +kernel
theorem dX6_write_9 : decode cX6_write 9 = .ok (.ifCond .ne 24, 3) := by decide +kernel
theorem dX6_write_12 : decode cX6_write 12 = .ok (.iload_n 2, 1) := by decide +kernel
theorem dX6_write_13 : decode cX6_write 13 = .ok (.i2l, 1) := by decide +kernel
theorem dX6_write_14 : decode cX6_write 14 = .ok (.iconst 0, 1) := by decide +kernel
theorem dX6_write_15 : decode cX6_write 15 = .ok (.aload_n 0, 1) := by decide +kernel
theorem dX6_write_16 : decode cX6_write 16 = .ok (.getfield 28, 3) := by decide +kernel
theorem dX6_write_19 : decode cX6_write 19 = .ok (.iload_n 1, 1) := by decide +kernel
theorem dX6_write_20 : decode cX6_write 20 = .ok (.iaload, 1) := by decide +kernel
theorem dX6_write_21 : decode cX6_write 21 = .ok (.iconst 1, 1) := by decide +kernel
theorem dX6_write_22 : decode cX6_write 22 = .ok (.isub, 1) := by decide +kernel
theorem dX6_write_23 : decode cX6_write 23 = .ok (.invokestatic 41, 3) := by decide +kernel
theorem dX6_write_26 : decode cX6_write 26 = .ok (.ifCond .ne 7, 3) := by decide +kernel
theorem dX6_write_29 : decode cX6_write 29 = .ok (.ldc 35, 2) := by decide +kernel
theorem dX6_write_31 : decode cX6_write 31 = .ok (.istore 5, 2) := by decide +kernel
theorem dX6_write_33 : decode cX6_write 33 = .ok (.iload 5, 2) := by decide +kernel
theorem dX6_write_35 : decode cX6_write 35 = .ok (.ifCond .eq 11, 3) := by decide +kernel
theorem dX6_write_38 : decode cX6_write 38 = .ok (.aload_n 0, 1) := by decide +kernel
theorem dX6_write_39 : decode cX6_write 39 = .ok (.iload 5, 2) := by decide +kernel
theorem dX6_write_41 : decode cX6_write 41 = .ok (.invokevirtual 37, 3) := by decide +kernel
theorem dX6_write_44 : decode cX6_write 44 = .ok (.i2l, 1) := by decide +kernel
theorem dX6_write_45 : decode cX6_write 45 = .ok (.lreturn, 1) := by decide +kernel
theorem dX6_write_46 : decode cX6_write 46 = .ok (.aload_n 0, 1) := by decide +kernel
theorem dX6_write_47 : decode cX6_write 47 = .ok (.getfield 31, 3) := by decide +kernel
theorem dX6_write_50 : decode cX6_write 50 = .ok (.bipush 40, 2) := by decide +kernel
theorem dX6_write_52 : decode cX6_write 52 = .ok (.iload_n 1, 1) := by decide +kernel
theorem dX6_write_53 : decode cX6_write 53 = .ok (.imul, 1) := by decide +kernel
theorem dX6_write_54 : decode cX6_write 54 = .ok (.iload_n 2, 1) := by decide +kernel
theorem dX6_write_55 : decode cX6_write 55 = .ok (.iadd, 1) := by decide +kernel
theorem dX6_write_56 : decode cX6_write 56 = .ok (.laload, 1) := by decide +kernel
theorem dX6_write_57 : decode cX6_write 57 = .ok (.lstore 6, 2) := by decide +kernel
theorem dX6_write_59 : decode cX6_write 59 = .ok (.aload_n 0, 1) := by decide +kernel
theorem dX6_write_60 : decode cX6_write 60 = .ok (.getfield 31, 3) := by decide +kernel
theorem dX6_write_63 : decode cX6_write 63 = .ok (.bipush 40, 2) := by decide +kernel
theorem dX6_write_65 : decode cX6_write 65 = .ok (.iload_n 1, 1) := by decide +kernel
theorem dX6_write_66 : decode cX6_write 66 = .ok (.imul, 1) := by decide +kernel
theorem dX6_write_67 : decode cX6_write 67 = .ok (.iload_n 2, 1) := by decide +kernel
theorem dX6_write_68 : decode cX6_write 68 = .ok (.iadd, 1) := by decide +kernel
theorem dX6_write_69 : decode cX6_write 69 = .ok (.aload_n 0, 1) := by decide +kernel
theorem dX6_write_70 : decode cX6_write 70 = .ok (.getfield 25, 3) := by decide +kernel
theorem dX6_write_73 : decode cX6_write 73 = .ok (.iload_n 1, 1) := by decide +kernel
theorem dX6_write_74 : decode cX6_write 74 = .ok (.iaload, 1) := by decide +kernel
theorem dX6_write_75 : decode cX6_write 75 = .ok (.lload_n 3, 1) := by decide +kernel
theorem dX6_write_76 : decode cX6_write 76 = .ok (.invokestatic 201, 3) := by decide +kernel
theorem dX6_write_79 : decode cX6_write 79 = .ok (.lastore, 1) := by decide +kernel
theorem dX6_write_80 : decode cX6_write 80 = .ok (.lload 6, 2) := by decide +kernel
theorem dX6_write_82 : decode cX6_write 82 = .ok (.lreturn, 1) := by decide +kernel
set_option maxRecDepth 20000 in
theorem ggX6_notCopied_X6_isSheet : GoodIn wsX6_notCopied wsX6_isSheet := goodIn_r _ [9, 10, 11, 8, 12] (by decide +kernel) (by decide +kernel)
set_option maxRecDepth 20000 in
theorem gX6_notCopied_X6_isSheet : GoodIn wsX6_notCopied (va_wsS RX6 193 yX6_isSheet wsX6_isSheet) := goodIn_app (goodIn_of _ (by decide +kernel)) ggX6_notCopied_X6_isSheet
theorem dX6_notCopied_0 : decode cX6_notCopied 0 = .ok (.iload_n 1, 1) := by decide +kernel
theorem dX6_notCopied_1 : decode cX6_notCopied 1 = .ok (.invokestatic 193, 3) := by decide +kernel
theorem dX6_notCopied_4 : decode cX6_notCopied 4 = .ok (.ifCond .eq 10, 3) := by decide +kernel
theorem dX6_notCopied_7 : decode cX6_notCopied 7 = .ok (.iload_n 3, 1) := by decide +kernel
theorem dX6_notCopied_8 : decode cX6_notCopied 8 = .ok (.invokestatic 193, 3) := by decide +kernel
theorem dX6_notCopied_11 : decode cX6_notCopied 11 = .ok (.ifCond .ne 6, 3) := by decide +kernel
theorem dX6_notCopied_14 : decode cX6_notCopied 14 = .ok (.ldc 35, 2) := by decide +kernel
theorem dX6_notCopied_16 : decode cX6_notCopied 16 = .ok (.ireturn, 1) := by decide +kernel
theorem dX6_notCopied_17 : decode cX6_notCopied 17 = .ok (.aload_n 0, 1) := by decide +kernel
theorem dX6_notCopied_18 : decode cX6_notCopied 18 = .ok (.getfield 25, 3) := by decide +kernel
theorem dX6_notCopied_21 : decode cX6_notCopied 21 = .ok (.iload_n 1, 1) := by decide +kernel
theorem dX6_notCopied_22 : decode cX6_notCopied 22 = .ok (.iaload, 1) := by decide +kernel
theorem dX6_notCopied_23 : decode cX6_notCopied 23 = .ok (.ifCond .eq 12, 3) := by decide +kernel
theorem dX6_notCopied_26 : decode cX6_notCopied 26 = .ok (.aload_n 0, 1) := by decide +kernel
theorem dX6_notCopied_27 : decode cX6_notCopied 27 = .ok (.getfield 25, 3) := by decide +kernel
theorem dX6_notCopied_30 : decode cX6_notCopied 30 = .ok (.iload_n 3, 1) := by decide +kernel
theorem dX6_notCopied_31 : decode cX6_notCopied 31 = .ok (.iaload, 1) := by decide +kernel
theorem dX6_notCopied_32 : decode cX6_notCopied 32 = .ok (.ifCond .ne 6, 3) := by decide +kernel
theorem dX6_notCopied_35 : decode cX6_notCopied 35 = .ok (.ldc 197, 2) := by decide +kernel
theorem dX6_notCopied_37 : decode cX6_notCopied 37 = .ok (.ireturn, 1) := by decide +kernel
theorem dX6_notCopied_38 : decode cX6_notCopied 38 = .ok (.aload_n 0, 1) := by decide +kernel
theorem dX6_notCopied_39 : decode cX6_notCopied 39 = .ok (.getfield 25, 3) := by decide +kernel
theorem dX6_notCopied_42 : decode cX6_notCopied 42 = .ok (.iload_n 1, 1) := by decide +kernel
theorem dX6_notCopied_43 : decode cX6_notCopied 43 = .ok (.iaload, 1) := by decide +kernel
theorem dX6_notCopied_44 : decode cX6_notCopied 44 = .ok (.aload_n 0, 1) := by decide +kernel
theorem dX6_notCopied_45 : decode cX6_notCopied 45 = .ok (.getfield 25, 3) := by decide +kernel
theorem dX6_notCopied_48 : decode cX6_notCopied 48 = .ok (.iload_n 3, 1) := by decide +kernel
theorem dX6_notCopied_49 : decode cX6_notCopied 49 = .ok (.iaload, 1) := by decide +kernel
theorem dX6_notCopied_50 : decode cX6_notCopied 50 = .ok (.if_icmp .eq 6, 3) := by decide +kernel
theorem dX6_notCopied_53 : decode cX6_notCopied 53 = .ok (.ldc 97, 2) := by decide +kernel
theorem dX6_notCopied_55 : decode cX6_notCopied 55 = .ok (.ireturn, 1) := by decide +kernel
theorem dX6_notCopied_56 : decode cX6_notCopied 56 = .ok (.iload 5, 2) := by decide +kernel
theorem dX6_notCopied_58 : decode cX6_notCopied 58 = .ok (.ifCond .lt 43, 3) := by decide +kernel
theorem dX6_notCopied_61 : decode cX6_notCopied 61 = .ok (.iload_n 2, 1) := by decide +kernel
theorem dX6_notCopied_62 : decode cX6_notCopied 62 = .ok (.ifCond .lt 39, 3) := by decide +kernel
theorem dX6_notCopied_65 : decode cX6_notCopied 65 = .ok (.iload 4, 2) := by decide +kernel
theorem dX6_notCopied_67 : decode cX6_notCopied 67 = .ok (.ifCond .lt 34, 3) := by decide +kernel
theorem dX6_notCopied_70 : decode cX6_notCopied 70 = .ok (.iload 5, 2) := by decide +kernel
theorem dX6_notCopied_72 : decode cX6_notCopied 72 = .ok (.aload_n 0, 1) := by decide +kernel
theorem dX6_notCopied_73 : decode cX6_notCopied 73 = .ok (.getfield 28, 3) := by decide +kernel
theorem dX6_notCopied_76 : decode cX6_notCopied 76 = .ok (.iload_n 1, 1) := by decide +kernel
theorem dX6_notCopied_77 : decode cX6_notCopied 77 = .ok (.iaload, 1) := by decide +kernel
theorem dX6_notCopied_78 : decode cX6_notCopied 78 = .ok (.iload_n 2, 1) := by decide +kernel
theorem dX6_notCopied_79 : decode cX6_notCopied 79 = .ok (.isub, 1) := by decide +kernel
theorem dX6_notCopied_80 : decode cX6_notCopied 80 = .ok (.if_icmp .gt 21, 3) := by decide +kernel
theorem dX6_notCopied_83 : decode cX6_notCopied 83 = .ok (.iload 5, 2) := by decide +kernel
theorem dX6_notCopied_85 : decode cX6_notCopied 85 = .ok (.aload_n 0, 1) := by decide +kernel
theorem dX6_notCopied_86 : decode cX6_notCopied 86 = .ok (.getfield 28, 3) := by decide +kernel
theorem dX6_notCopied_89 : decode cX6_notCopied 89 = .ok (.iload_n 3, 1) := by decide +kernel
theorem dX6_notCopied_90 : decode cX6_notCopied 90 = .ok (.iaload, 1) := by decide +kernel
theorem dX6_notCopied_91 : decode cX6_notCopied 91 = .ok (.iload 4, 2) := by decide +kernel
theorem dX6_notCopied_93 : decode cX6_notCopied 93 = .ok (.isub, 1) := by decide +kernel
theorem dX6_notCopied_94 : decode cX6_notCopied 94 = .ok (.if_icmp .gt 7, 3) := by decide +kernel
theorem dX6_notCopied_97 : decode cX6_notCopied 97 = .ok (.iconst 1, 1) := by decide +kernel
theorem dX6_notCopied_98 : decode cX6_notCopied 98 = .ok (.goto 4, 3) := by decide +kernel
theorem dX6_notCopied_101 : decode cX6_notCopied 101 = .ok (.iconst 0, 1) := by decide +kernel
theorem dX6_notCopied_102 : decode cX6_notCopied 102 = .ok (.istore 6, 2) := by decide +kernel
theorem dX6_notCopied_104 : decode cX6_notCopied 104 = .ok (.iload 6, 2) := by decide +kernel
theorem dX6_notCopied_106 : decode cX6_notCopied 106 = .ok (.ifCond .eq 7, 3) := by decide +kernel
theorem dX6_notCopied_109 : decode cX6_notCopied 109 = .ok (.iconst 0, 1) := by decide +kernel
theorem dX6_notCopied_110 : decode cX6_notCopied 110 = .ok (.goto 5, 3) := by decide +kernel
theorem dX6_notCopied_113 : decode cX6_notCopied 113 = .ok (.ldc 35, 2) := by decide +kernel
theorem dX6_notCopied_115 : decode cX6_notCopied 115 = .ok (.ireturn, 1) := by decide +kernel
set_option maxRecDepth 20000 in
theorem ggX6_copy_X6_notCopied : GoodIn wsX6_copy wsX6_notCopied := goodIn_r _ [6, 7, 8, 9, 10, 11, 12, 13, 5, 14, 15, 16, 17, 23, 24, 25, 26, 27, 28, 29, 30, 31, 32, 33, 34, 35, 36, 37, 38] (by decide +kernel) (by decide +kernel)
set_option maxRecDepth 20000 in
theorem gX6_copy_X6_notCopied : GoodIn wsX6_copy (wsV RX6 205 RX6 yX6_notCopied wsX6_notCopied) := goodIn_app (goodIn_of _ (by decide +kernel)) ggX6_copy_X6_notCopied
set_option maxRecDepth 20000 in
theorem ggX6_copy_X6_finds : GoodIn wsX6_copy wsX6_finds := goodIn_r _ [21, 22, 7, 23, 24, 25, 26, 27, 28, 29, 30, 31, 32, 33, 34, 35, 36, 37, 38] (by decide +kernel) (by decide +kernel)
set_option maxRecDepth 20000 in
theorem gX6_copy_X6_finds : GoodIn wsX6_copy (wsV RX6 37 RX6 yX6_finds wsX6_finds) := goodIn_app (goodIn_of _ (by decide +kernel)) ggX6_copy_X6_finds
theorem dX6_copy_0 : decode cX6_copy 0 = .ok (.aload_n 0, 1) := by decide +kernel
theorem dX6_copy_1 : decode cX6_copy 1 = .ok (.iload_n 1, 1) := by decide +kernel
theorem dX6_copy_2 : decode cX6_copy 2 = .ok (.iload_n 2, 1) := by decide +kernel
theorem dX6_copy_3 : decode cX6_copy 3 = .ok (.iload_n 3, 1) := by decide +kernel
theorem dX6_copy_4 : decode cX6_copy 4 = .ok (.iload 4, 2) := by decide +kernel
theorem dX6_copy_6 : decode cX6_copy 6 = .ok (.iload 5, 2) := by decide +kernel
theorem dX6_copy_8 : decode cX6_copy 8 = .ok (.invokevirtual 205, 3) := by decide +kernel
theorem dX6_copy_11 : decode cX6_copy 11 = .ok (.istore 6, 2) := by decide +kernel
theorem dX6_copy_13 : decode cX6_copy 13 = .ok (.iload 6, 2) := by decide +kernel
theorem dX6_copy_15 : decode cX6_copy 15 = .ok (.ifCond .eq 10, 3) := by decide +kernel
theorem dX6_copy_18 : decode cX6_copy 18 = .ok (.aload_n 0, 1) := by decide +kernel
theorem dX6_copy_19 : decode cX6_copy 19 = .ok (.iload 6, 2) := by decide +kernel
theorem dX6_copy_21 : decode cX6_copy 21 = .ok (.invokevirtual 37, 3) := by decide +kernel
theorem dX6_copy_24 : decode cX6_copy 24 = .ok (.ireturn, 1) := by decide +kernel
theorem dX6_copy_25 : decode cX6_copy 25 = .ok (.iconst 0, 1) := by decide +kernel
theorem dX6_copy_26 : decode cX6_copy 26 = .ok (.istore 7, 2) := by decide +kernel
theorem dX6_copy_28 : decode cX6_copy 28 = .ok (.iload 7, 2) := by decide +kernel
theorem dX6_copy_30 : decode cX6_copy 30 = .ok (.iload 5, 2) := by decide +kernel
theorem dX6_copy_32 : decode cX6_copy 32 = .ok (.if_icmp .ge 58, 3) := by decide +kernel
theorem dX6_copy_35 : decode cX6_copy 35 = .ok (.iload_n 2, 1) := by decide +kernel
theorem dX6_copy_36 : decode cX6_copy 36 = .ok (.iload 4, 2) := by decide +kernel
theorem dX6_copy_38 : decode cX6_copy 38 = .ok (.if_icmp .ge 13, 3) := by decide +kernel
theorem dX6_copy_41 : decode cX6_copy 41 = .ok (.iload 5, 2) := by decide +kernel
theorem dX6_copy_43 : decode cX6_copy 43 = .ok (.iconst 1, 1) := by decide +kernel
theorem dX6_copy_44 : decode cX6_copy 44 = .ok (.isub, 1) := by decide +kernel
theorem dX6_copy_45 : decode cX6_copy 45 = .ok (.iload 7, 2) := by decide +kernel
theorem dX6_copy_47 : decode cX6_copy 47 = .ok (.isub, 1) := by decide +kernel
theorem dX6_copy_48 : decode cX6_copy 48 = .ok (.goto 5, 3) := by decide +kernel
theorem dX6_copy_51 : decode cX6_copy 51 = .ok (.iload 7, 2) := by decide +kernel
theorem dX6_copy_53 : decode cX6_copy 53 = .ok (.istore 8, 2) := by decide +kernel
theorem dX6_copy_55 : decode cX6_copy 55 = .ok (.aload_n 0, 1) := by decide +kernel
theorem dX6_copy_56 : decode cX6_copy 56 = .ok (.getfield 31, 3) := by decide +kernel
theorem dX6_copy_59 : decode cX6_copy 59 = .ok (.bipush 40, 2) := by decide +kernel
theorem dX6_copy_61 : decode cX6_copy 61 = .ok (.iload_n 3, 1) := by decide +kernel
theorem dX6_copy_62 : decode cX6_copy 62 = .ok (.imul, 1) := by decide +kernel
theorem dX6_copy_63 : decode cX6_copy 63 = .ok (.iload 4, 2) := by decide +kernel
theorem dX6_copy_65 : decode cX6_copy 65 = .ok (.iadd, 1) := by decide +kernel
theorem dX6_copy_66 : decode cX6_copy 66 = .ok (.iload 8, 2) := by decide +kernel
theorem dX6_copy_68 : decode cX6_copy 68 = .ok (.iadd, 1) := by decide +kernel
theorem dX6_copy_69 : decode cX6_copy 69 = .ok (.aload_n 0, 1) := by decide +kernel
theorem dX6_copy_70 : decode cX6_copy 70 = .ok (.getfield 31, 3) := by decide +kernel
theorem dX6_copy_73 : decode cX6_copy 73 = .ok (.bipush 40, 2) := by decide +kernel
theorem dX6_copy_75 : decode cX6_copy 75 = .ok (.iload_n 1, 1) := by decide +kernel
theorem dX6_copy_76 : decode cX6_copy 76 = .ok (.imul, 1) := by decide +kernel
theorem dX6_copy_77 : decode cX6_copy 77 = .ok (.iload_n 2, 1) := by decide +kernel
theorem dX6_copy_78 : decode cX6_copy 78 = .ok (.iadd, 1) := by decide +kernel
theorem dX6_copy_79 : decode cX6_copy 79 = .ok (.iload 8, 2) := by decide +kernel
theorem dX6_copy_81 : decode cX6_copy 81 = .ok (.iadd, 1) := by decide +kernel
theorem dX6_copy_82 : decode cX6_copy 82 = .ok (.laload, 1) := by decide +kernel
theorem dX6_copy_83 : decode cX6_copy 83 = .ok (.lastore, 1) := by decide +kernel
theorem dX6_copy_84 : decode cX6_copy 84 = .ok (.iinc 7 1, 3) := by decide +kernel
theorem dX6_copy_87 : decode cX6_copy 87 = .ok (.goto (-59), 3) := by decide +kernel
theorem dX6_copy_90 : decode cX6_copy 90 = .ok (.iload 5, 2) := by decide +kernel
theorem dX6_copy_92 : decode cX6_copy 92 = .ok (.ireturn, 1) := by decide +kernel
set_option maxRecDepth 20000 in
theorem ggX6_lays_X6_notThere : GoodIn wsX6_lays wsX6_notThere := goodIn_r _ [8, 9, 10, 11, 12, 13, 7, 14, 15, 16, 17, 27, 28, 29, 30, 31, 32, 33, 34, 35, 36, 37, 38, 39, 40, 41, 42] (by decide +kernel) (by decide +kernel)
set_option maxRecDepth 20000 in
theorem gX6_lays_X6_notThere : GoodIn wsX6_lays (wsV RX6 198 RX6 yX6_notThere wsX6_notThere) := goodIn_app (goodIn_of _ (by decide +kernel)) ggX6_lays_X6_notThere
set_option maxRecDepth 20000 in
theorem ggX6_lays_X6_finds : GoodIn wsX6_lays wsX6_finds := goodIn_r _ [21, 22, 9, 27, 28, 29, 30, 31, 32, 33, 34, 35, 36, 37, 38, 39, 40, 41, 42] (by decide +kernel) (by decide +kernel)
set_option maxRecDepth 20000 in
theorem gX6_lays_X6_finds : GoodIn wsX6_lays (wsV RX6 37 RX6 yX6_finds wsX6_finds) := goodIn_app (goodIn_of _ (by decide +kernel)) ggX6_lays_X6_finds
set_option maxRecDepth 20000 in
theorem ggX6_lays_X6_in : GoodIn wsX6_lays wsX6_in := goodIn_r _ [17] (by decide +kernel) (by decide +kernel)
set_option maxRecDepth 20000 in
theorem gX6_lays_X6_in : GoodIn wsX6_lays (va_wsS RX6 41 yX6_in wsX6_in) := goodIn_app (goodIn_of _ (by decide +kernel)) ggX6_lays_X6_in
set_option maxRecDepth 20000 in
theorem ggX6_lays_X6_put : GoodIn wsX6_lays wsX6_put := goodIn_r _ [26, 2, 27, 28, 29, 30, 31, 32, 33, 34, 35, 36, 37, 38, 39, 40, 41, 42] (by decide +kernel) (by decide +kernel)
set_option maxRecDepth 20000 in
theorem gX6_lays_X6_put : GoodIn wsX6_lays (wsV RX6 79 RX6 yX6_put wsX6_put) := goodIn_app (goodIn_of _ (by decide +kernel)) ggX6_lays_X6_put
theorem dX6_lays_0 : decode cX6_lays 0 = .ok (.aload_n 0, 1) := by decide +kernel
theorem dX6_lays_1 : decode cX6_lays 1 = .ok (.iload_n 1, 1) := by decide +kernel
theorem dX6_lays_2 : decode cX6_lays 2 = .ok (.invokevirtual 198, 3) := by decide +kernel
theorem dX6_lays_5 : decode cX6_lays 5 = .ok (.istore_n 2, 1) := by decide +kernel
theorem dX6_lays_6 : decode cX6_lays 6 = .ok (.iload_n 2, 1) := by decide +kernel
theorem dX6_lays_7 : decode cX6_lays 7 = .ok (.ifCond .eq 9, 3) := by decide +kernel
theorem dX6_lays_10 : decode cX6_lays 10 = .ok (.aload_n 0, 1) := by decide +kernel
theorem dX6_lays_11 : decode cX6_lays 11 = .ok (.iload_n 2, 1) := by decide +kernel
theorem dX6_lays_12 : decode cX6_lays 12 = .ok (.invokevirtual 37, 3) := by decide +kernel
theorem dX6_lays_15 : decode cX6_lays 15 = .ok (.ireturn, 1) := by decide +kernel
theorem dX6_lays_16 : decode cX6_lays 16 = .ok (.iconst 0, 1) := by decide +kernel
theorem dX6_lays_17 : decode cX6_lays 17 = .ok (.istore_n 3, 1) := by decide +kernel
theorem dX6_lays_18 : decode cX6_lays 18 = .ok (.iconst 0, 1) := by decide +kernel
theorem dX6_lays_19 : decode cX6_lays 19 = .ok (.istore 4, 2) := by decide +kernel
theorem dX6_lays_21 : decode cX6_lays 21 = .ok (.iload 4, 2) := by decide +kernel
theorem dX6_lays_23 : decode cX6_lays 23 = .ok (.aload_n 0, 1) := by decide +kernel
theorem dX6_lays_24 : decode cX6_lays 24 = .ok (.getfield 28, 3) := by decide +kernel
theorem dX6_lays_27 : decode cX6_lays 27 = .ok (.iload_n 1, 1) := by decide +kernel
theorem dX6_lays_28 : decode cX6_lays 28 = .ok (.iaload, 1) := by decide +kernel
theorem dX6_lays_29 : decode cX6_lays 29 = .ok (.if_icmp .ge 65, 3) := by decide +kernel
theorem dX6_lays_32 : decode cX6_lays 32 = .ok (.iload 4, 2) := by decide +kernel
theorem dX6_lays_34 : decode cX6_lays 34 = .ok (.aload_n 0, 1) := by decide +kernel
theorem dX6_lays_35 : decode cX6_lays 35 = .ok (.getfield 9, 3) := by decide +kernel
theorem dX6_lays_38 : decode cX6_lays 38 = .ok (.iconst 3, 1) := by decide +kernel
theorem dX6_lays_39 : decode cX6_lays 39 = .ok (.iaload, 1) := by decide +kernel
theorem dX6_lays_40 : decode cX6_lays 40 = .ok (.if_icmp .ge 54, 3) := by decide +kernel
theorem dX6_lays_43 : decode cX6_lays 43 = .ok (.aload_n 0, 1) := by decide +kernel
theorem dX6_lays_44 : decode cX6_lays 44 = .ok (.getfield 31, 3) := by decide +kernel
theorem dX6_lays_47 : decode cX6_lays 47 = .ok (.bipush 40, 2) := by decide +kernel
theorem dX6_lays_49 : decode cX6_lays 49 = .ok (.iload_n 1, 1) := by decide +kernel
theorem dX6_lays_50 : decode cX6_lays 50 = .ok (.imul, 1) := by decide +kernel
theorem dX6_lays_51 : decode cX6_lays 51 = .ok (.iload 4, 2) := by decide +kernel
theorem dX6_lays_53 : decode cX6_lays 53 = .ok (.iadd, 1) := by decide +kernel
theorem dX6_lays_54 : decode cX6_lays 54 = .ok (.laload, 1) := by decide +kernel
theorem dX6_lays_55 : decode cX6_lays 55 = .ok (.iconst 0, 1) := by decide +kernel
theorem dX6_lays_56 : decode cX6_lays 56 = .ok (.sipush 9999, 3) := by decide +kernel
theorem dX6_lays_59 : decode cX6_lays 59 = .ok (.invokestatic 41, 3) := by decide +kernel
theorem dX6_lays_62 : decode cX6_lays 62 = .ok (.ifCond .eq 26, 3) := by decide +kernel
theorem dX6_lays_65 : decode cX6_lays 65 = .ok (.aload_n 0, 1) := by decide +kernel
theorem dX6_lays_66 : decode cX6_lays 66 = .ok (.iload 4, 2) := by decide +kernel
theorem dX6_lays_68 : decode cX6_lays 68 = .ok (.iconst 3, 1) := by decide +kernel
theorem dX6_lays_69 : decode cX6_lays 69 = .ok (.aload_n 0, 1) := by decide +kernel
theorem dX6_lays_70 : decode cX6_lays 70 = .ok (.getfield 31, 3) := by decide +kernel
theorem dX6_lays_73 : decode cX6_lays 73 = .ok (.bipush 40, 2) := by decide +kernel
theorem dX6_lays_75 : decode cX6_lays 75 = .ok (.iload_n 1, 1) := by decide +kernel
theorem dX6_lays_76 : decode cX6_lays 76 = .ok (.imul, 1) := by decide +kernel
theorem dX6_lays_77 : decode cX6_lays 77 = .ok (.iload 4, 2) := by decide +kernel
theorem dX6_lays_79 : decode cX6_lays 79 = .ok (.iadd, 1) := by decide +kernel
theorem dX6_lays_80 : decode cX6_lays 80 = .ok (.laload, 1) := by decide +kernel
theorem dX6_lays_81 : decode cX6_lays 81 = .ok (.l2i, 1) := by decide +kernel
theorem dX6_lays_82 : decode cX6_lays 82 = .ok (.invokevirtual 79, 3) := by decide +kernel
theorem dX6_lays_85 : decode cX6_lays 85 = .ok (.iinc 3 1, 3) := by decide +kernel
theorem dX6_lays_88 : decode cX6_lays 88 = .ok (.iinc 4 1, 3) := by decide +kernel
theorem dX6_lays_91 : decode cX6_lays 91 = .ok (.goto (-70), 3) := by decide +kernel
theorem dX6_lays_94 : decode cX6_lays 94 = .ok (.iload_n 3, 1) := by decide +kernel
theorem dX6_lays_95 : decode cX6_lays 95 = .ok (.ireturn, 1) := by decide +kernel
set_option maxRecDepth 20000 in
theorem ggX6_book_X6_notThere : GoodIn wsX6_book wsX6_notThere := goodIn_r _ [8, 9, 3, 10, 11, 12, 7, 13, 14, 15, 16, 86, 87, 88, 89, 90, 91, 92, 93, 94, 95, 96, 97, 98, 99, 100, 101] (by decide +kernel) (by decide +kernel)
set_option maxRecDepth 20000 in
theorem gX6_book_X6_notThere : GoodIn wsX6_book (wsV RX6 198 RX6 yX6_notThere wsX6_notThere) := goodIn_app (goodIn_of _ (by decide +kernel)) ggX6_book_X6_notThere
set_option maxRecDepth 20000 in
theorem ggX6_book_X6_finds : GoodIn wsX6_book wsX6_finds := goodIn_r _ [20, 21, 9, 86, 87, 88, 89, 90, 91, 92, 93, 94, 95, 96, 97, 98, 99, 100, 101] (by decide +kernel) (by decide +kernel)
set_option maxRecDepth 20000 in
theorem gX6_book_X6_finds : GoodIn wsX6_book (wsV RX6 37 RX6 yX6_finds wsX6_finds) := goodIn_app (goodIn_of _ (by decide +kernel)) ggX6_book_X6_finds
set_option maxRecDepth 20000 in
theorem ggX6_book_X6_thinks : GoodIn wsX6_book wsX6_thinks := goodIn_r _ [25, 26, 27, 28, 29, 7, 30, 86, 87, 88, 89, 90, 91, 92, 93, 94, 95, 96, 97, 98, 99, 100, 101] (by decide +kernel) (by decide +kernel)
set_option maxRecDepth 20000 in
theorem gX6_book_X6_thinks : GoodIn wsX6_book (wsV RX6 118 RX6 yX6_thinks wsX6_thinks) := goodIn_app (goodIn_of _ (by decide +kernel)) ggX6_book_X6_thinks
set_option maxRecDepth 20000 in
theorem ggX6_book_X6_loudest : GoodIn wsX6_book wsX6_loudest := goodIn_r _ [34, 26, 35, 36, 37, 7, 38, 39, 40, 41, 42, 43, 44, 45, 46, 47, 48, 49, 50, 51, 52, 53, 54, 86, 87, 88, 89, 90, 91, 92, 93, 94, 95, 96, 97, 98, 99, 100, 101] (by decide +kernel) (by decide +kernel)
set_option maxRecDepth 20000 in
theorem gX6_book_X6_loudest : GoodIn wsX6_book (wsV RX6 69 RX6 yX6_loudest wsX6_loudest) := goodIn_app (goodIn_of _ (by decide +kernel)) ggX6_book_X6_loudest
set_option maxRecDepth 20000 in
theorem ggX6_book_X6_cutTo : GoodIn wsX6_book wsX6_cutTo := goodIn_r _ [57] (by decide +kernel) (by decide +kernel)
set_option maxRecDepth 20000 in
theorem gX6_book_X6_cutTo : GoodIn wsX6_book (va_wsS RX6 201 yX6_cutTo wsX6_cutTo) := goodIn_app (goodIn_of _ (by decide +kernel)) ggX6_book_X6_cutTo
set_option maxRecDepth 20000 in
theorem ggX6_book_X6_goes : GoodIn wsX6_book wsX6_goes := goodIn_r _ [61, 62, 26, 31, 32, 33, 7, 34, 35, 36, 37, 38, 39, 40, 41, 42, 43, 44, 45, 46, 47, 48, 49, 50, 51, 52, 53, 54, 63, 64, 65, 66, 67, 68, 69, 70, 71, 72, 73, 74, 75, 76, 77, 78, 79, 80, 81, 86, 87, 88, 89, 90, 91, 92, 93, 94, 95, 96, 97, 98, 99, 100, 101] (by decide +kernel) (by decide +kernel)
set_option maxRecDepth 20000 in
theorem gX6_book_X6_goes : GoodIn wsX6_book (wsV RX6 106 RX6 yX6_goes wsX6_goes) := goodIn_app (goodIn_of _ (by decide +kernel)) ggX6_book_X6_goes
set_option maxRecDepth 20000 in
theorem ggX6_book_X6_putsBack : GoodIn wsX6_book wsX6_putsBack := goodIn_r _ [85, 27, 26, 28, 29, 7, 30, 86, 87, 88, 89, 90, 91, 92, 93, 94, 95, 96, 97, 98, 99, 100, 101] (by decide +kernel) (by decide +kernel)
set_option maxRecDepth 20000 in
theorem gX6_book_X6_putsBack : GoodIn wsX6_book (wsV RX6 121 RX6 yX6_putsBack wsX6_putsBack) := goodIn_app (goodIn_of _ (by decide +kernel)) ggX6_book_X6_putsBack
theorem dX6_book_0 : decode cX6_book 0 = .ok (.aload_n 0, 1) := by decide +kernel
theorem dX6_book_1 : decode cX6_book 1 = .ok (.iload_n 1, 1) := by decide +kernel
theorem dX6_book_2 : decode cX6_book 2 = .ok (.invokevirtual 198, 3) := by decide +kernel
theorem dX6_book_5 : decode cX6_book 5 = .ok (.istore_n 2, 1) := by decide +kernel
theorem dX6_book_6 : decode cX6_book 6 = .ok (.iload_n 2, 1) := by decide +kernel
theorem dX6_book_7 : decode cX6_book 7 = .ok (.ifCond .eq 9, 3) := by decide +kernel
theorem dX6_book_10 : decode cX6_book 10 = .ok (.aload_n 0, 1) := by decide +kernel
theorem dX6_book_11 : decode cX6_book 11 = .ok (.iload_n 2, 1) := by decide +kernel
theorem dX6_book_12 : decode cX6_book 12 = .ok (.invokevirtual 37, 3) := by decide +kernel
theorem dX6_book_15 : decode cX6_book 15 = .ok (.ireturn, 1) := by decide +kernel
theorem dX6_book_16 : decode cX6_book 16 = .ok (.aload_n 0, 1) := by decide +kernel
theorem dX6_book_17 : decode cX6_book 17 = .ok (.invokevirtual 118, 3) := by decide +kernel
theorem dX6_book_20 : decode cX6_book 20 = .ok (.iconst 0, 1) := by decide +kernel
theorem dX6_book_21 : decode cX6_book 21 = .ok (.istore_n 3, 1) := by decide +kernel
theorem dX6_book_22 : decode cX6_book 22 = .ok (.iload_n 3, 1) := by decide +kernel
theorem dX6_book_23 : decode cX6_book 23 = .ok (.aload_n 0, 1) := by decide +kernel
theorem dX6_book_24 : decode cX6_book 24 = .ok (.getfield 28, 3) := by decide +kernel
theorem dX6_book_27 : decode cX6_book 27 = .ok (.iload_n 1, 1) := by decide +kernel
theorem dX6_book_28 : decode cX6_book 28 = .ok (.iaload, 1) := by decide +kernel
theorem dX6_book_29 : decode cX6_book 29 = .ok (.if_icmp .ge 38, 3) := by decide +kernel
theorem dX6_book_32 : decode cX6_book 32 = .ok (.aload_n 0, 1) := by decide +kernel
theorem dX6_book_33 : decode cX6_book 33 = .ok (.getfield 31, 3) := by decide +kernel
theorem dX6_book_36 : decode cX6_book 36 = .ok (.bipush 40, 2) := by decide +kernel
theorem dX6_book_38 : decode cX6_book 38 = .ok (.iload_n 1, 1) := by decide +kernel
theorem dX6_book_39 : decode cX6_book 39 = .ok (.imul, 1) := by decide +kernel
theorem dX6_book_40 : decode cX6_book 40 = .ok (.iload_n 3, 1) := by decide +kernel
theorem dX6_book_41 : decode cX6_book 41 = .ok (.iadd, 1) := by decide +kernel
theorem dX6_book_42 : decode cX6_book 42 = .ok (.aload_n 0, 1) := by decide +kernel
theorem dX6_book_43 : decode cX6_book 43 = .ok (.getfield 25, 3) := by decide +kernel
theorem dX6_book_46 : decode cX6_book 46 = .ok (.iload_n 1, 1) := by decide +kernel
theorem dX6_book_47 : decode cX6_book 47 = .ok (.iaload, 1) := by decide +kernel
theorem dX6_book_48 : decode cX6_book 48 = .ok (.aload_n 0, 1) := by decide +kernel
theorem dX6_book_49 : decode cX6_book 49 = .ok (.invokevirtual 69, 3) := by decide +kernel
theorem dX6_book_52 : decode cX6_book 52 = .ok (.i2l, 1) := by decide +kernel
theorem dX6_book_53 : decode cX6_book 53 = .ok (.invokestatic 201, 3) := by decide +kernel
theorem dX6_book_56 : decode cX6_book 56 = .ok (.lastore, 1) := by decide +kernel
theorem dX6_book_57 : decode cX6_book 57 = .ok (.aload_n 0, 1) := by decide +kernel
theorem dX6_book_58 : decode cX6_book 58 = .ok (.invokevirtual 106, 3) := by decide +kernel
theorem dX6_book_61 : decode cX6_book 61 = .ok (.iinc 3 1, 3) := by decide +kernel
theorem dX6_book_64 : decode cX6_book 64 = .ok (.goto (-42), 3) := by decide +kernel
theorem dX6_book_67 : decode cX6_book 67 = .ok (.aload_n 0, 1) := by decide +kernel
theorem dX6_book_68 : decode cX6_book 68 = .ok (.invokevirtual 121, 3) := by decide +kernel
theorem dX6_book_71 : decode cX6_book 71 = .ok (.aload_n 0, 1) := by decide +kernel
theorem dX6_book_72 : decode cX6_book 72 = .ok (.getfield 28, 3) := by decide +kernel
theorem dX6_book_75 : decode cX6_book 75 = .ok (.iload_n 1, 1) := by decide +kernel
theorem dX6_book_76 : decode cX6_book 76 = .ok (.iaload, 1) := by decide +kernel
theorem dX6_book_77 : decode cX6_book 77 = .ok (.ireturn, 1) := by decide +kernel
set_option maxRecDepth 20000 in
theorem ggX6_isBook_X6_it : GoodIn wsX6_isBook wsX6_it := goodIn_r _ [7, 8, 61, 62, 63, 64, 65, 66, 67, 68, 69, 70, 71, 72, 73, 74, 75, 76] (by decide +kernel) (by decide +kernel)
set_option maxRecDepth 20000 in
theorem gX6_isBook_X6_it : GoodIn wsX6_isBook (wsV RX6 45 RX6 yX6_it wsX6_it) := goodIn_app (goodIn_of _ (by decide +kernel)) ggX6_isBook_X6_it
set_option maxRecDepth 20000 in
theorem ggX6_isBook_X6_goes : GoodIn wsX6_isBook wsX6_goes := goodIn_r _ [12, 13, 8, 14, 15, 16, 6, 17, 18, 19, 20, 21, 3, 4, 5, 7, 22, 23, 24, 25, 26, 27, 28, 29, 30, 31, 32, 33, 34, 35, 36, 37, 38, 39, 40, 41, 42, 43, 44, 45, 46, 47, 48, 49, 50, 51, 52, 61, 62, 63, 64, 65, 66, 67, 68, 69, 70, 71, 72, 73, 74, 75, 76] (by decide +kernel) (by decide +kernel)
set_option maxRecDepth 20000 in
theorem gX6_isBook_X6_goes : GoodIn wsX6_isBook (wsV RX6 106 RX6 yX6_goes wsX6_goes) := goodIn_app (goodIn_of _ (by decide +kernel)) ggX6_isBook_X6_goes
set_option maxRecDepth 20000 in
theorem ggX6_isBook_X6_putsBack : GoodIn wsX6_isBook wsX6_putsBack := goodIn_r _ [56, 57, 8, 58, 59, 6, 60, 61, 62, 63, 64, 65, 66, 67, 68, 69, 70, 71, 72, 73, 74, 75, 76] (by decide +kernel) (by decide +kernel)
set_option maxRecDepth 20000 in
theorem gX6_isBook_X6_putsBack : GoodIn wsX6_isBook (wsV RX6 121 RX6 yX6_putsBack wsX6_putsBack) := goodIn_app (goodIn_of _ (by decide +kernel)) ggX6_isBook_X6_putsBack
theorem dX6_isBook_0 : decode cX6_isBook 0 = .ok (.iconst 1, 1) := by decide +kernel
theorem dX6_isBook_1 : decode cX6_isBook 1 = .ok (.istore_n 3, 1) := by decide +kernel
theorem dX6_isBook_2 : decode cX6_isBook 2 = .ok (.iconst 0, 1) := by decide +kernel
theorem dX6_isBook_3 : decode cX6_isBook 3 = .ok (.istore 4, 2) := by decide +kernel
theorem dX6_isBook_5 : decode cX6_isBook 5 = .ok (.iload 4, 2) := by decide +kernel
theorem dX6_isBook_7 : decode cX6_isBook 7 = .ok (.aload_n 0, 1) := by decide +kernel
theorem dX6_isBook_8 : decode cX6_isBook 8 = .ok (.getfield 28, 3) := by decide +kernel
theorem dX6_isBook_11 : decode cX6_isBook 11 = .ok (.iload_n 1, 1) := by decide +kernel
theorem dX6_isBook_12 : decode cX6_isBook 12 = .ok (.iaload, 1) := by decide +kernel
theorem dX6_isBook_13 : decode cX6_isBook 13 = .ok (.if_icmp .ge 46, 3) := by decide +kernel
theorem dX6_isBook_16 : decode cX6_isBook 16 = .ok (.iload_n 3, 1) := by decide +kernel
theorem dX6_isBook_17 : decode cX6_isBook 17 = .ok (.ifCond .eq 42, 3) := by decide +kernel
theorem dX6_isBook_20 : decode cX6_isBook 20 = .ok (.aload_n 0, 1) := by decide +kernel
theorem dX6_isBook_21 : decode cX6_isBook 21 = .ok (.getfield 31, 3) := by decide +kernel
theorem dX6_isBook_24 : decode cX6_isBook 24 = .ok (.bipush 40, 2) := by decide +kernel
theorem dX6_isBook_26 : decode cX6_isBook 26 = .ok (.iload_n 1, 1) := by decide +kernel
theorem dX6_isBook_27 : decode cX6_isBook 27 = .ok (.imul, 1) := by decide +kernel
theorem dX6_isBook_28 : decode cX6_isBook 28 = .ok (.iload 4, 2) := by decide +kernel
theorem dX6_isBook_30 : decode cX6_isBook 30 = .ok (.iadd, 1) := by decide +kernel
theorem dX6_isBook_31 : decode cX6_isBook 31 = .ok (.laload, 1) := by decide +kernel
theorem dX6_isBook_32 : decode cX6_isBook 32 = .ok (.aload_n 0, 1) := by decide +kernel
theorem dX6_isBook_33 : decode cX6_isBook 33 = .ok (.iload_n 2, 1) := by decide +kernel
theorem dX6_isBook_34 : decode cX6_isBook 34 = .ok (.iconst 2, 1) := by decide +kernel
theorem dX6_isBook_35 : decode cX6_isBook 35 = .ok (.invokevirtual 45, 3) := by decide +kernel
theorem dX6_isBook_38 : decode cX6_isBook 38 = .ok (.i2l, 1) := by decide +kernel
theorem dX6_isBook_39 : decode cX6_isBook 39 = .ok (.lcmp, 1) := by decide +kernel
theorem dX6_isBook_40 : decode cX6_isBook 40 = .ok (.ifCond .ne 7, 3) := by decide +kernel
theorem dX6_isBook_43 : decode cX6_isBook 43 = .ok (.iconst 1, 1) := by decide +kernel
theorem dX6_isBook_44 : decode cX6_isBook 44 = .ok (.goto 4, 3) := by decide +kernel
theorem dX6_isBook_47 : decode cX6_isBook 47 = .ok (.iconst 0, 1) := by decide +kernel
theorem dX6_isBook_48 : decode cX6_isBook 48 = .ok (.istore_n 3, 1) := by decide +kernel
theorem dX6_isBook_49 : decode cX6_isBook 49 = .ok (.aload_n 0, 1) := by decide +kernel
theorem dX6_isBook_50 : decode cX6_isBook 50 = .ok (.invokevirtual 106, 3) := by decide +kernel
theorem dX6_isBook_53 : decode cX6_isBook 53 = .ok (.iinc 4 1, 3) := by decide +kernel
theorem dX6_isBook_56 : decode cX6_isBook 56 = .ok (.goto (-51), 3) := by decide +kernel
theorem dX6_isBook_59 : decode cX6_isBook 59 = .ok (.aload_n 0, 1) := by decide +kernel
theorem dX6_isBook_60 : decode cX6_isBook 60 = .ok (.invokevirtual 121, 3) := by decide +kernel
theorem dX6_isBook_63 : decode cX6_isBook 63 = .ok (.iload_n 3, 1) := by decide +kernel
theorem dX6_isBook_64 : decode cX6_isBook 64 = .ok (.ireturn, 1) := by decide +kernel
set_option maxRecDepth 20000 in
theorem ggX6_read_X6_notThere : GoodIn wsX6_read wsX6_notThere := goodIn_r _ [7, 1, 8, 9, 10, 11, 6, 12, 13, 14, 15, 91, 92, 93, 94, 95, 96, 97, 98, 99, 100, 101, 102, 103, 104, 105, 106] (by decide +kernel) (by decide +kernel)
set_option maxRecDepth 20000 in
theorem gX6_read_X6_notThere : GoodIn wsX6_read (wsV RX6 198 RX6 yX6_notThere wsX6_notThere) := goodIn_app (goodIn_of _ (by decide +kernel)) ggX6_read_X6_notThere
set_option maxRecDepth 20000 in
theorem ggX6_read_X6_isPart : GoodIn wsX6_read wsX6_isPart := goodIn_r _ [19, 2, 13, 14, 6, 15, 91, 92, 93, 94, 95, 96, 97, 98, 99, 100, 101, 102, 103, 104, 105, 106] (by decide +kernel) (by decide +kernel)
set_option maxRecDepth 20000 in
theorem gX6_read_X6_isPart : GoodIn wsX6_read (wsV RX6 88 RX6 yX6_isPart wsX6_isPart) := goodIn_app (goodIn_of _ (by decide +kernel)) ggX6_read_X6_isPart
set_option maxRecDepth 20000 in
theorem ggX6_read_X6_finds : GoodIn wsX6_read wsX6_finds := goodIn_r _ [23, 24, 1, 91, 92, 93, 94, 95, 96, 97, 98, 99, 100, 101, 102, 103, 104, 105, 106] (by decide +kernel) (by decide +kernel)
set_option maxRecDepth 20000 in
theorem gX6_read_X6_finds : GoodIn wsX6_read (wsV RX6 37 RX6 yX6_finds wsX6_finds) := goodIn_app (goodIn_of _ (by decide +kernel)) ggX6_read_X6_finds
set_option maxRecDepth 20000 in
theorem ggX6_read_X6_thinks : GoodIn wsX6_read wsX6_thinks := goodIn_r _ [28, 2, 29, 30, 31, 6, 32, 91, 92, 93, 94, 95, 96, 97, 98, 99, 100, 101, 102, 103, 104, 105, 106] (by decide +kernel) (by decide +kernel)
set_option maxRecDepth 20000 in
theorem gX6_read_X6_thinks : GoodIn wsX6_read (wsV RX6 118 RX6 yX6_thinks wsX6_thinks) := goodIn_app (goodIn_of _ (by decide +kernel)) ggX6_read_X6_thinks
set_option maxRecDepth 20000 in
theorem ggX6_read_X6_put : GoodIn wsX6_read wsX6_put := goodIn_r _ [36, 2, 91, 92, 93, 94, 95, 96, 97, 98, 99, 100, 101, 102, 103, 104, 105, 106] (by decide +kernel) (by decide +kernel)
set_option maxRecDepth 20000 in
theorem gX6_read_X6_put : GoodIn wsX6_read (wsV RX6 79 RX6 yX6_put wsX6_put) := goodIn_app (goodIn_of _ (by decide +kernel)) ggX6_read_X6_put
set_option maxRecDepth 20000 in
theorem ggX6_read_X6_isBook : GoodIn wsX6_read wsX6_isBook := goodIn_r _ [40, 41, 42, 43, 44, 45, 6, 46, 2, 47, 48, 49, 50, 51, 52, 53, 54, 55, 56, 57, 58, 59, 60, 61, 62, 63, 64, 65, 66, 67, 68, 69, 70, 71, 72, 73, 74, 75, 76, 77, 78, 79, 80, 81, 82, 33, 34, 35, 36, 83, 84, 85, 86, 87, 88, 89, 90, 29, 30, 31, 32, 91, 92, 93, 94, 95, 96, 97, 98, 99, 100, 101, 102, 103, 104, 105, 106] (by decide +kernel) (by decide +kernel)
set_option maxRecDepth 20000 in
theorem gX6_read_X6_isBook : GoodIn wsX6_read (wsV RX6 209 RX6 yX6_isBook wsX6_isBook) := goodIn_app (goodIn_of _ (by decide +kernel)) ggX6_read_X6_isBook
theorem dX6_read_0 : decode cX6_read 0 = .ok (.aload_n 0, 1) := by decide +kernel
theorem dX6_read_1 : decode cX6_read 1 = .ok (.iload_n 1, 1) := by decide +kernel
theorem dX6_read_2 : decode cX6_read 2 = .ok (.invokevirtual 198, 3) := by decide +kernel
theorem dX6_read_5 : decode cX6_read 5 = .ok (.istore_n 3, 1) := by decide +kernel
theorem dX6_read_6 : decode cX6_read 6 = .ok (.iload_n 3, 1) := by decide +kernel
theorem dX6_read_7 : decode cX6_read 7 = .ok (.ifCond .ne 16, 3) := by decide +kernel
theorem dX6_read_10 : decode cX6_read 10 = .ok (.aload_n 0, 1) := by decide +kernel
theorem dX6_read_11 : decode cX6_read 11 = .ok (.iload_n 2, 1) := by decide +kernel
theorem dX6_read_12 : decode cX6_read 12 = .ok (.invokevirtual 88, 3) := by decide +kernel
theorem dX6_read_15 : decode cX6_read 15 = .ok (.ifCond .ne 8, 3) := by decide +kernel
theorem dX6_read_18 : decode cX6_read 18 = .ok (.ldc 35, 2) := by decide +kernel
theorem dX6_read_20 : decode cX6_read 20 = .ok (.goto 4, 3) := by decide +kernel
theorem dX6_read_23 : decode cX6_read 23 = .ok (.iload_n 3, 1) := by decide +kernel
theorem dX6_read_24 : decode cX6_read 24 = .ok (.istore_n 3, 1) := by decide +kernel
theorem dX6_read_25 : decode cX6_read 25 = .ok (.iload_n 3, 1) := by decide +kernel
theorem dX6_read_26 : decode cX6_read 26 = .ok (.ifCond .eq 9, 3) := by decide +kernel
theorem dX6_read_29 : decode cX6_read 29 = .ok (.aload_n 0, 1) := by decide +kernel
theorem dX6_read_30 : decode cX6_read 30 = .ok (.iload_n 3, 1) := by decide +kernel
theorem dX6_read_31 : decode cX6_read 31 = .ok (.invokevirtual 37, 3) := by decide +kernel
theorem dX6_read_34 : decode cX6_read 34 = .ok (.ireturn, 1) := by decide +kernel
theorem dX6_read_35 : decode cX6_read 35 = .ok (.aload_n 0, 1) := by decide +kernel
theorem dX6_read_36 : decode cX6_read 36 = .ok (.invokevirtual 118, 3) := by decide +kernel
theorem dX6_read_39 : decode cX6_read 39 = .ok (.iconst 0, 1) := by decide +kernel
theorem dX6_read_40 : decode cX6_read 40 = .ok (.istore 4, 2) := by decide +kernel
theorem dX6_read_42 : decode cX6_read 42 = .ok (.iconst 0, 1) := by decide +kernel
theorem dX6_read_43 : decode cX6_read 43 = .ok (.istore 5, 2) := by decide +kernel
theorem dX6_read_45 : decode cX6_read 45 = .ok (.iload 5, 2) := by decide +kernel
theorem dX6_read_47 : decode cX6_read 47 = .ok (.sipush 600, 3) := by decide +kernel
theorem dX6_read_50 : decode cX6_read 50 = .ok (.if_icmp .ge 50, 3) := by decide +kernel
theorem dX6_read_53 : decode cX6_read 53 = .ok (.aload_n 0, 1) := by decide +kernel
theorem dX6_read_54 : decode cX6_read 54 = .ok (.iload_n 2, 1) := by decide +kernel
theorem dX6_read_55 : decode cX6_read 55 = .ok (.iconst 0, 1) := by decide +kernel
theorem dX6_read_56 : decode cX6_read 56 = .ok (.iload 5, 2) := by decide +kernel
theorem dX6_read_58 : decode cX6_read 58 = .ok (.bipush 100, 2) := by decide +kernel
theorem dX6_read_60 : decode cX6_read 60 = .ok (.idiv, 1) := by decide +kernel
theorem dX6_read_61 : decode cX6_read 61 = .ok (.invokevirtual 79, 3) := by decide +kernel
theorem dX6_read_64 : decode cX6_read 64 = .ok (.aload_n 0, 1) := by decide +kernel
theorem dX6_read_65 : decode cX6_read 65 = .ok (.getfield 9, 3) := by decide +kernel
theorem dX6_read_68 : decode cX6_read 68 = .ok (.iconst 1, 1) := by decide +kernel
theorem dX6_read_69 : decode cX6_read 69 = .ok (.iload 5, 2) := by decide +kernel
theorem dX6_read_71 : decode cX6_read 71 = .ok (.bipush 100, 2) := by decide +kernel
theorem dX6_read_73 : decode cX6_read 73 = .ok (.irem, 1) := by decide +kernel
theorem dX6_read_74 : decode cX6_read 74 = .ok (.iastore, 1) := by decide +kernel
theorem dX6_read_75 : decode cX6_read 75 = .ok (.iload 4, 2) := by decide +kernel
theorem dX6_read_77 : decode cX6_read 77 = .ok (.aload_n 0, 1) := by decide +kernel
theorem dX6_read_78 : decode cX6_read 78 = .ok (.iload_n 1, 1) := by decide +kernel
theorem dX6_read_79 : decode cX6_read 79 = .ok (.iload_n 2, 1) := by decide +kernel
theorem dX6_read_80 : decode cX6_read 80 = .ok (.invokevirtual 209, 3) := by decide +kernel
theorem dX6_read_83 : decode cX6_read 83 = .ok (.ifCond .eq 7, 3) := by decide +kernel
theorem dX6_read_86 : decode cX6_read 86 = .ok (.iconst 1, 1) := by decide +kernel
theorem dX6_read_87 : decode cX6_read 87 = .ok (.goto 4, 3) := by decide +kernel
theorem dX6_read_90 : decode cX6_read 90 = .ok (.iconst 0, 1) := by decide +kernel
theorem dX6_read_91 : decode cX6_read 91 = .ok (.iadd, 1) := by decide +kernel
theorem dX6_read_92 : decode cX6_read 92 = .ok (.istore 4, 2) := by decide +kernel
theorem dX6_read_94 : decode cX6_read 94 = .ok (.iinc 5 1, 3) := by decide +kernel
theorem dX6_read_97 : decode cX6_read 97 = .ok (.goto (-52), 3) := by decide +kernel
theorem dX6_read_100 : decode cX6_read 100 = .ok (.iload 4, 2) := by decide +kernel
theorem dX6_read_102 : decode cX6_read 102 = .ok (.ireturn, 1) := by decide +kernel
set_option maxRecDepth 20000 in
theorem ggX6_image_X6_copyAll : GoodIn wsX6_image wsX6_copyAll := goodIn_r _ [7] (by decide +kernel) (by decide +kernel)
set_option maxRecDepth 20000 in
theorem gX6_image_X6_copyAll : GoodIn wsX6_image (va_wsS RX6 114 yX6_copyAll wsX6_copyAll) := goodIn_app (goodIn_of _ (by decide +kernel)) ggX6_image_X6_copyAll
theorem dX6_image_0 : decode cX6_image 0 = .ok (.aload_n 0, 1) := by decide +kernel
theorem dX6_image_1 : decode cX6_image 1 = .ok (.getfield 9, 3) := by decide +kernel
theorem dX6_image_4 : decode cX6_image 4 = .ok (.aload_n 0, 1) := by decide +kernel
theorem dX6_image_5 : decode cX6_image 5 = .ok (.getfield 13, 3) := by decide +kernel
theorem dX6_image_8 : decode cX6_image 8 = .ok (.invokestatic 114, 3) := by decide +kernel
theorem dX6_image_11 : decode cX6_image 11 = .ok (.aload_n 0, 1) := by decide +kernel
theorem dX6_image_12 : decode cX6_image 12 = .ok (.iconst 1, 1) := by decide +kernel
theorem dX6_image_13 : decode cX6_image 13 = .ok (.putfield 212, 3) := by decide +kernel
theorem dX6_image_16 : decode cX6_image 16 = .ok (.iconst 1, 1) := by decide +kernel
theorem dX6_image_17 : decode cX6_image 17 = .ok (.ireturn, 1) := by decide +kernel
set_option maxRecDepth 20000 in
theorem ggX6_undo_X6_finds : GoodIn wsX6_undo wsX6_finds := goodIn_r _ [9, 10, 11, 15, 16, 17, 18, 19, 20, 21, 22, 23, 24, 25, 26, 27, 28, 29, 30] (by decide +kernel) (by decide +kernel)
set_option maxRecDepth 20000 in
theorem gX6_undo_X6_finds : GoodIn wsX6_undo (wsV RX6 37 RX6 yX6_finds wsX6_finds) := goodIn_app (goodIn_of _ (by decide +kernel)) ggX6_undo_X6_finds
set_option maxRecDepth 20000 in
theorem ggX6_undo_X6_copyAll : GoodIn wsX6_undo wsX6_copyAll := goodIn_r _ [14] (by decide +kernel) (by decide +kernel)
set_option maxRecDepth 20000 in
theorem gX6_undo_X6_copyAll : GoodIn wsX6_undo (va_wsS RX6 114 yX6_copyAll wsX6_copyAll) := goodIn_app (goodIn_of _ (by decide +kernel)) ggX6_undo_X6_copyAll
theorem dX6_undo_0 : decode cX6_undo 0 = .ok (.aload_n 0, 1) := by decide +kernel
theorem dX6_undo_1 : decode cX6_undo 1 = .ok (.getfield 212, 3) := by decide +kernel
theorem dX6_undo_4 : decode cX6_undo 4 = .ok (.ifCond .ne 10, 3) := by decide +kernel
theorem dX6_undo_7 : decode cX6_undo 7 = .ok (.aload_n 0, 1) := by decide +kernel
theorem dX6_undo_8 : decode cX6_undo 8 = .ok (.ldc 36, 2) := by decide +kernel
theorem dX6_undo_10 : decode cX6_undo 10 = .ok (.invokevirtual 37, 3) := by decide +kernel
theorem dX6_undo_13 : decode cX6_undo 13 = .ok (.ireturn, 1) := by decide +kernel
theorem dX6_undo_14 : decode cX6_undo 14 = .ok (.aload_n 0, 1) := by decide +kernel
theorem dX6_undo_15 : decode cX6_undo 15 = .ok (.getfield 13, 3) := by decide +kernel
theorem dX6_undo_18 : decode cX6_undo 18 = .ok (.aload_n 0, 1) := by decide +kernel
theorem dX6_undo_19 : decode cX6_undo 19 = .ok (.getfield 9, 3) := by decide +kernel
theorem dX6_undo_22 : decode cX6_undo 22 = .ok (.invokestatic 114, 3) := by decide +kernel
theorem dX6_undo_25 : decode cX6_undo 25 = .ok (.aload_n 0, 1) := by decide +kernel
theorem dX6_undo_26 : decode cX6_undo 26 = .ok (.getfield 9, 3) := by decide +kernel
theorem dX6_undo_29 : decode cX6_undo 29 = .ok (.iconst 3, 1) := by decide +kernel
theorem dX6_undo_30 : decode cX6_undo 30 = .ok (.iaload, 1) := by decide +kernel
theorem dX6_undo_31 : decode cX6_undo 31 = .ok (.ireturn, 1) := by decide +kernel
theorem dX6_tear_0 : decode cX6_tear 0 = .ok (.aload_n 0, 1) := by decide +kernel
theorem dX6_tear_1 : decode cX6_tear 1 = .ok (.getfield 212, 3) := by decide +kernel
theorem dX6_tear_4 : decode cX6_tear 4 = .ok (.ifCond .eq 7, 3) := by decide +kernel
theorem dX6_tear_7 : decode cX6_tear 7 = .ok (.iconst 1, 1) := by decide +kernel
theorem dX6_tear_8 : decode cX6_tear 8 = .ok (.goto 4, 3) := by decide +kernel
theorem dX6_tear_11 : decode cX6_tear 11 = .ok (.iconst 0, 1) := by decide +kernel
theorem dX6_tear_12 : decode cX6_tear 12 = .ok (.istore_n 1, 1) := by decide +kernel
theorem dX6_tear_13 : decode cX6_tear 13 = .ok (.aload_n 0, 1) := by decide +kernel
theorem dX6_tear_14 : decode cX6_tear 14 = .ok (.iconst 0, 1) := by decide +kernel
theorem dX6_tear_15 : decode cX6_tear 15 = .ok (.putfield 212, 3) := by decide +kernel
theorem dX6_tear_18 : decode cX6_tear 18 = .ok (.iload_n 1, 1) := by decide +kernel
theorem dX6_tear_19 : decode cX6_tear 19 = .ok (.ireturn, 1) := by decide +kernel
theorem dX6_holidays_0 : decode cX6_holidays 0 = .ok (.iconst 0, 1) := by decide +kernel
theorem dX6_holidays_1 : decode cX6_holidays 1 = .ok (.istore_n 1, 1) := by decide +kernel
theorem dX6_holidays_2 : decode cX6_holidays 2 = .ok (.iconst 0, 1) := by decide +kernel
theorem dX6_holidays_3 : decode cX6_holidays 3 = .ok (.istore_n 2, 1) := by decide +kernel
theorem dX6_holidays_4 : decode cX6_holidays 4 = .ok (.iload_n 2, 1) := by decide +kernel
theorem dX6_holidays_5 : decode cX6_holidays 5 = .ok (.bipush 7, 2) := by decide +kernel
theorem dX6_holidays_7 : decode cX6_holidays 7 = .ok (.if_icmp .ge 20, 3) := by decide +kernel
theorem dX6_holidays_10 : decode cX6_holidays 10 = .ok (.iload_n 1, 1) := by decide +kernel
theorem dX6_holidays_11 : decode cX6_holidays 11 = .ok (.aload_n 0, 1) := by decide +kernel
theorem dX6_holidays_12 : decode cX6_holidays 12 = .ok (.getfield 9, 3) := by decide +kernel
theorem dX6_holidays_15 : decode cX6_holidays 15 = .ok (.iconst 4, 1) := by decide +kernel
theorem dX6_holidays_16 : decode cX6_holidays 16 = .ok (.iload_n 2, 1) := by decide +kernel
theorem dX6_holidays_17 : decode cX6_holidays 17 = .ok (.iadd, 1) := by decide +kernel
theorem dX6_holidays_18 : decode cX6_holidays 18 = .ok (.iaload, 1) := by decide +kernel
theorem dX6_holidays_19 : decode cX6_holidays 19 = .ok (.iadd, 1) := by decide +kernel
theorem dX6_holidays_20 : decode cX6_holidays 20 = .ok (.istore_n 1, 1) := by decide +kernel
theorem dX6_holidays_21 : decode cX6_holidays 21 = .ok (.iinc 2 1, 3) := by decide +kernel
theorem dX6_holidays_24 : decode cX6_holidays 24 = .ok (.goto (-20), 3) := by decide +kernel
theorem dX6_holidays_27 : decode cX6_holidays 27 = .ok (.iload_n 1, 1) := by decide +kernel
theorem dX6_holidays_28 : decode cX6_holidays 28 = .ok (.ireturn, 1) := by decide +kernel
set_option maxRecDepth 20000 in
theorem ggX6_allPlayed_X6_it : GoodIn wsX6_allPlayed wsX6_it := goodIn_r _ [6, 1, 7, 8, 9, 10, 11, 12, 13, 14, 15, 16, 17, 18, 19, 20, 21, 22] (by decide +kernel) (by decide +kernel)
set_option maxRecDepth 20000 in
theorem gX6_allPlayed_X6_it : GoodIn wsX6_allPlayed (wsV RX6 45 RX6 yX6_it wsX6_it) := goodIn_app (goodIn_of _ (by decide +kernel)) ggX6_allPlayed_X6_it
theorem dX6_allPlayed_0 : decode cX6_allPlayed 0 = .ok (.iconst 0, 1) := by decide +kernel
theorem dX6_allPlayed_1 : decode cX6_allPlayed 1 = .ok (.istore_n 1, 1) := by decide +kernel
theorem dX6_allPlayed_2 : decode cX6_allPlayed 2 = .ok (.iconst 0, 1) := by decide +kernel
theorem dX6_allPlayed_3 : decode cX6_allPlayed 3 = .ok (.istore_n 2, 1) := by decide +kernel
theorem dX6_allPlayed_4 : decode cX6_allPlayed 4 = .ok (.iload_n 2, 1) := by decide +kernel
theorem dX6_allPlayed_5 : decode cX6_allPlayed 5 = .ok (.aload_n 0, 1) := by decide +kernel
theorem dX6_allPlayed_6 : decode cX6_allPlayed 6 = .ok (.getfield 9, 3) := by decide +kernel
theorem dX6_allPlayed_9 : decode cX6_allPlayed 9 = .ok (.iconst 3, 1) := by decide +kernel
theorem dX6_allPlayed_10 : decode cX6_allPlayed 10 = .ok (.iaload, 1) := by decide +kernel
theorem dX6_allPlayed_11 : decode cX6_allPlayed 11 = .ok (.if_icmp .ge 18, 3) := by decide +kernel
theorem dX6_allPlayed_14 : decode cX6_allPlayed 14 = .ok (.iload_n 1, 1) := by decide +kernel
theorem dX6_allPlayed_15 : decode cX6_allPlayed 15 = .ok (.aload_n 0, 1) := by decide +kernel
theorem dX6_allPlayed_16 : decode cX6_allPlayed 16 = .ok (.iload_n 2, 1) := by decide +kernel
theorem dX6_allPlayed_17 : decode cX6_allPlayed 17 = .ok (.iconst 2, 1) := by decide +kernel
theorem dX6_allPlayed_18 : decode cX6_allPlayed 18 = .ok (.invokevirtual 45, 3) := by decide +kernel
theorem dX6_allPlayed_21 : decode cX6_allPlayed 21 = .ok (.iadd, 1) := by decide +kernel
theorem dX6_allPlayed_22 : decode cX6_allPlayed 22 = .ok (.istore_n 1, 1) := by decide +kernel
theorem dX6_allPlayed_23 : decode cX6_allPlayed 23 = .ok (.iinc 2 1, 3) := by decide +kernel
theorem dX6_allPlayed_26 : decode cX6_allPlayed 26 = .ok (.goto (-22), 3) := by decide +kernel
theorem dX6_allPlayed_29 : decode cX6_allPlayed 29 = .ok (.iload_n 1, 1) := by decide +kernel
theorem dX6_allPlayed_30 : decode cX6_allPlayed 30 = .ok (.ireturn, 1) := by decide +kernel
set_option maxRecDepth 20000 in
theorem ggX6_count_X6_holidays : GoodIn wsX6_count wsX6_holidays := goodIn_r _ [8, 1, 22, 23, 24, 25, 26, 27, 28, 29, 30, 31, 32, 33, 34, 35, 36, 37] (by decide +kernel) (by decide +kernel)
set_option maxRecDepth 20000 in
theorem gX6_count_X6_holidays : GoodIn wsX6_count (wsV RX6 215 RX6 yX6_holidays wsX6_holidays) := goodIn_app (goodIn_of _ (by decide +kernel)) ggX6_count_X6_holidays
set_option maxRecDepth 20000 in
theorem ggX6_count_X6_allPlayed : GoodIn wsX6_count wsX6_allPlayed := goodIn_r _ [12, 1, 13, 14, 15, 7, 16, 22, 23, 24, 25, 26, 27, 28, 29, 30, 31, 32, 33, 34, 35, 36, 37] (by decide +kernel) (by decide +kernel)
set_option maxRecDepth 20000 in
theorem gX6_count_X6_allPlayed : GoodIn wsX6_count (wsV RX6 218 RX6 yX6_allPlayed wsX6_allPlayed) := goodIn_app (goodIn_of _ (by decide +kernel)) ggX6_count_X6_allPlayed
set_option maxRecDepth 20000 in
theorem ggX6_count_X6_finds : GoodIn wsX6_count wsX6_finds := goodIn_r _ [20, 21, 3, 22, 23, 24, 25, 26, 27, 28, 29, 30, 31, 32, 33, 34, 35, 36, 37] (by decide +kernel) (by decide +kernel)
set_option maxRecDepth 20000 in
theorem gX6_count_X6_finds : GoodIn wsX6_count (wsV RX6 37 RX6 yX6_finds wsX6_finds) := goodIn_app (goodIn_of _ (by decide +kernel)) ggX6_count_X6_finds
theorem dX6_count_0 : decode cX6_count 0 = .ok (.iload_n 1, 1) := by decide +kernel
theorem dX6_count_1 : decode cX6_count 1 = .ok (.tableswitch 53 0 3 #[31, 38, 43, 48], 31) := by decide +kernel
theorem dX6_count_32 : decode cX6_count 32 = .ok (.aload_n 0, 1) := by decide +kernel
theorem dX6_count_33 : decode cX6_count 33 = .ok (.getfield 9, 3) := by decide +kernel
theorem dX6_count_36 : decode cX6_count 36 = .ok (.iconst 3, 1) := by decide +kernel
theorem dX6_count_37 : decode cX6_count 37 = .ok (.iaload, 1) := by decide +kernel
theorem dX6_count_38 : decode cX6_count 38 = .ok (.ireturn, 1) := by decide +kernel
theorem dX6_count_39 : decode cX6_count 39 = .ok (.aload_n 0, 1) := by decide +kernel
theorem dX6_count_40 : decode cX6_count 40 = .ok (.getfield 142, 3) := by decide +kernel
theorem dX6_count_43 : decode cX6_count 43 = .ok (.ireturn, 1) := by decide +kernel
theorem dX6_count_44 : decode cX6_count 44 = .ok (.aload_n 0, 1) := by decide +kernel
theorem dX6_count_45 : decode cX6_count 45 = .ok (.invokevirtual 215, 3) := by decide +kernel
theorem dX6_count_48 : decode cX6_count 48 = .ok (.ireturn, 1) := by decide +kernel
theorem dX6_count_49 : decode cX6_count 49 = .ok (.aload_n 0, 1) := by decide +kernel
theorem dX6_count_50 : decode cX6_count 50 = .ok (.invokevirtual 218, 3) := by decide +kernel
theorem dX6_count_53 : decode cX6_count 53 = .ok (.ireturn, 1) := by decide +kernel
theorem dX6_count_54 : decode cX6_count 54 = .ok (.aload_n 0, 1) := by decide +kernel
theorem dX6_count_55 : decode cX6_count 55 = .ok (.ldc 35, 2) := by decide +kernel
theorem dX6_count_57 : decode cX6_count 57 = .ok (.invokevirtual 37, 3) := by decide +kernel
theorem dX6_count_60 : decode cX6_count 60 = .ok (.ireturn, 1) := by decide +kernel
set_option maxRecDepth 20000 in
theorem ggX6_status_X6_in : GoodIn wsX6_status wsX6_in := goodIn_r _ [6] (by decide +kernel) (by decide +kernel)
set_option maxRecDepth 20000 in
theorem gX6_status_X6_in : GoodIn wsX6_status (va_wsS RX6 41 yX6_in wsX6_in) := goodIn_app (goodIn_of _ (by decide +kernel)) ggX6_status_X6_in
set_option maxRecDepth 20000 in
theorem ggX6_status_X6_finds : GoodIn wsX6_status wsX6_finds := goodIn_r _ [10, 2, 1, 11, 12, 13, 14, 15, 16, 17, 18, 19, 20, 21, 22, 23, 24, 25, 26] (by decide +kernel) (by decide +kernel)
set_option maxRecDepth 20000 in
theorem gX6_status_X6_finds : GoodIn wsX6_status (wsV RX6 37 RX6 yX6_finds wsX6_finds) := goodIn_app (goodIn_of _ (by decide +kernel)) ggX6_status_X6_finds
theorem dX6_status_0 : decode cX6_status 0 = .ok (.iload_n 1, 1) := by decide +kernel
theorem dX6_status_1 : decode cX6_status 1 = .ok (.i2l, 1) := by decide +kernel
theorem dX6_status_2 : decode cX6_status 2 = .ok (.iconst (-1), 1) := by decide +kernel
theorem dX6_status_3 : decode cX6_status 3 = .ok (.bipush 6, 2) := by decide +kernel
theorem dX6_status_5 : decode cX6_status 5 = .ok (.invokestatic 41, 3) := by decide +kernel
theorem dX6_status_8 : decode cX6_status 8 = .ok (.ifCond .ne 10, 3) := by decide +kernel
theorem dX6_status_11 : decode cX6_status 11 = .ok (.aload_n 0, 1) := by decide +kernel
theorem dX6_status_12 : decode cX6_status 12 = .ok (.ldc 35, 2) := by decide +kernel
theorem dX6_status_14 : decode cX6_status 14 = .ok (.invokevirtual 37, 3) := by decide +kernel
theorem dX6_status_17 : decode cX6_status 17 = .ok (.ireturn, 1) := by decide +kernel
theorem dX6_status_18 : decode cX6_status 18 = .ok (.iconst 0, 1) := by decide +kernel
theorem dX6_status_19 : decode cX6_status 19 = .ok (.istore_n 2, 1) := by decide +kernel
theorem dX6_status_20 : decode cX6_status 20 = .ok (.iconst 0, 1) := by decide +kernel
theorem dX6_status_21 : decode cX6_status 21 = .ok (.istore_n 3, 1) := by decide +kernel
theorem dX6_status_22 : decode cX6_status 22 = .ok (.iload_n 3, 1) := by decide +kernel
theorem dX6_status_23 : decode cX6_status 23 = .ok (.bipush 7, 2) := by decide +kernel
theorem dX6_status_25 : decode cX6_status 25 = .ok (.if_icmp .ge 31, 3) := by decide +kernel
theorem dX6_status_28 : decode cX6_status 28 = .ok (.iload_n 2, 1) := by decide +kernel
theorem dX6_status_29 : decode cX6_status 29 = .ok (.iload_n 1, 1) := by decide +kernel
theorem dX6_status_30 : decode cX6_status 30 = .ok (.ifCond .lt 8, 3) := by decide +kernel
theorem dX6_status_33 : decode cX6_status 33 = .ok (.iload_n 1, 1) := by decide +kernel
theorem dX6_status_34 : decode cX6_status 34 = .ok (.iload_n 3, 1) := by decide +kernel
theorem dX6_status_35 : decode cX6_status 35 = .ok (.if_icmp .ne 12, 3) := by decide +kernel
theorem dX6_status_38 : decode cX6_status 38 = .ok (.aload_n 0, 1) := by decide +kernel
theorem dX6_status_39 : decode cX6_status 39 = .ok (.getfield 19, 3) := by decide +kernel
theorem dX6_status_42 : decode cX6_status 42 = .ok (.iload_n 3, 1) := by decide +kernel
theorem dX6_status_43 : decode cX6_status 43 = .ok (.iaload, 1) := by decide +kernel
theorem dX6_status_44 : decode cX6_status 44 = .ok (.goto 4, 3) := by decide +kernel
theorem dX6_status_47 : decode cX6_status 47 = .ok (.iconst 0, 1) := by decide +kernel
theorem dX6_status_48 : decode cX6_status 48 = .ok (.iadd, 1) := by decide +kernel
theorem dX6_status_49 : decode cX6_status 49 = .ok (.istore_n 2, 1) := by decide +kernel
theorem dX6_status_50 : decode cX6_status 50 = .ok (.iinc 3 1, 3) := by decide +kernel
theorem dX6_status_53 : decode cX6_status 53 = .ok (.goto (-31), 3) := by decide +kernel
theorem dX6_status_56 : decode cX6_status 56 = .ok (.iload_n 2, 1) := by decide +kernel
theorem dX6_status_57 : decode cX6_status 57 = .ok (.ireturn, 1) := by decide +kernel
