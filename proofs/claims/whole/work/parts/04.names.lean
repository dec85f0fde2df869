theorem dX5_now_0 : decode cX5_now 0 = .ok (.iload_n 1, 1) := by decide +kernel
theorem dX5_now_1 : decode cX5_now 1 = .ok (.tableswitch 102 0 6 #[43, 51, 62, 70, 78, 86, 94], 43) := by decide +kernel
theorem dX5_now_44 : decode cX5_now 44 = .ok (.aload_n 0, 1) := by decide +kernel
theorem dX5_now_45 : decode cX5_now 45 = .ok (.getfield 10, 3) := by decide +kernel
theorem dX5_now_48 : decode cX5_now 48 = .ok (.getfield 69, 3) := by decide +kernel
theorem dX5_now_51 : decode cX5_now 51 = .ok (.ireturn, 1) := by decide +kernel
theorem dX5_now_52 : decode cX5_now 52 = .ok (.aload_n 0, 1) := by decide +kernel
theorem dX5_now_53 : decode cX5_now 53 = .ok (.getfield 10, 3) := by decide +kernel
theorem dX5_now_56 : decode cX5_now 56 = .ok (.invokevirtual 72, 3) := by decide +kernel
theorem dX5_now_59 : decode cX5_now 59 = .ok (.invokestatic 76, 3) := by decide +kernel
theorem dX5_now_62 : decode cX5_now 62 = .ok (.ireturn, 1) := by decide +kernel
theorem dX5_now_63 : decode cX5_now 63 = .ok (.aload_n 0, 1) := by decide +kernel
theorem dX5_now_64 : decode cX5_now 64 = .ok (.getfield 10, 3) := by decide +kernel
theorem dX5_now_67 : decode cX5_now 67 = .ok (.getfield 62, 3) := by decide +kernel
theorem dX5_now_70 : decode cX5_now 70 = .ok (.ireturn, 1) := by decide +kernel
theorem dX5_now_71 : decode cX5_now 71 = .ok (.aload_n 0, 1) := by decide +kernel
theorem dX5_now_72 : decode cX5_now 72 = .ok (.getfield 10, 3) := by decide +kernel
theorem dX5_now_75 : decode cX5_now 75 = .ok (.getfield 80, 3) := by decide +kernel
theorem dX5_now_78 : decode cX5_now 78 = .ok (.ireturn, 1) := by decide +kernel
theorem dX5_now_79 : decode cX5_now 79 = .ok (.aload_n 0, 1) := by decide +kernel
theorem dX5_now_80 : decode cX5_now 80 = .ok (.getfield 10, 3) := by decide +kernel
theorem dX5_now_83 : decode cX5_now 83 = .ok (.invokevirtual 83, 3) := by decide +kernel
theorem dX5_now_86 : decode cX5_now 86 = .ok (.ireturn, 1) := by decide +kernel
theorem dX5_now_87 : decode cX5_now 87 = .ok (.aload_n 0, 1) := by decide +kernel
theorem dX5_now_88 : decode cX5_now 88 = .ok (.getfield 10, 3) := by decide +kernel
theorem dX5_now_91 : decode cX5_now 91 = .ok (.invokevirtual 87, 3) := by decide +kernel
theorem dX5_now_94 : decode cX5_now 94 = .ok (.ireturn, 1) := by decide +kernel
theorem dX5_now_95 : decode cX5_now 95 = .ok (.aload_n 0, 1) := by decide +kernel
theorem dX5_now_96 : decode cX5_now 96 = .ok (.getfield 10, 3) := by decide +kernel
theorem dX5_now_99 : decode cX5_now 99 = .ok (.invokevirtual 90, 3) := by decide +kernel
theorem dX5_now_102 : decode cX5_now 102 = .ok (.ireturn, 1) := by decide +kernel
theorem dX5_now_103 : decode cX5_now 103 = .ok (.aload_n 0, 1) := by decide +kernel
theorem dX5_now_104 : decode cX5_now 104 = .ok (.ldc 57, 2) := by decide +kernel
theorem dX5_now_106 : decode cX5_now 106 = .ok (.invokevirtual 58, 3) := by decide +kernel
theorem dX5_now_109 : decode cX5_now 109 = .ok (.ireturn, 1) := by decide +kernel
set_option maxRecDepth 20000 in
theorem ggX5_part_X5_isKind : GoodIn wsX5_part wsX5_isKind := goodIn_r _ [7, 8, 9, 6, 10] (by decide +kernel) (by decide +kernel)
set_option maxRecDepth 20000 in
theorem gX5_part_X5_isKind : GoodIn wsX5_part (va_wsS RX5 93 yX5_isKind wsX5_isKind) := goodIn_app (goodIn_of _ (by decide +kernel)) ggX5_part_X5_isKind
set_option maxRecDepth 20000 in
theorem ggX5_part_X5_inside : GoodIn wsX5_part wsX5_inside := goodIn_r _ [10] (by decide +kernel) (by decide +kernel)
set_option maxRecDepth 20000 in
theorem gX5_part_X5_inside : GoodIn wsX5_part (va_wsS RX5 53 yX5_inside wsX5_inside) := goodIn_app (goodIn_of _ (by decide +kernel)) ggX5_part_X5_inside
set_option maxRecDepth 20000 in
theorem ggX5_part_X5_finding : GoodIn wsX5_part wsX5_finding := goodIn_r _ [14, 1, 15, 32, 33, 34, 35, 36, 37, 38, 39] (by decide +kernel) (by decide +kernel)
set_option maxRecDepth 20000 in
theorem gX5_part_X5_finding : GoodIn wsX5_part (wsV RX5 58 RX5 yX5_finding wsX5_finding) := goodIn_app (goodIn_of _ (by decide +kernel)) ggX5_part_X5_finding
set_option maxRecDepth 20000 in
theorem ggX5_part_X1_isFull : GoodIn wsX5_part wsX1_isFull := goodIn_r _ [20, 21, 40, 41, 42, 43, 44, 45, 46, 47, 48, 49] (by decide +kernel) (by decide +kernel)
set_option maxRecDepth 20000 in
theorem gX5_part_X1_isFull : GoodIn wsX5_part (wsV RX5 97 RX1 yX1_isFull wsX1_isFull) := goodIn_app (goodIn_of _ (by decide +kernel)) ggX5_part_X1_isFull
set_option maxRecDepth 20000 in
theorem ggX5_part_X1_add : GoodIn wsX5_part wsX1_add := goodIn_r _ [25, 21, 26, 27, 28, 29, 30, 31, 17, 18, 19, 20, 40, 41, 42, 43, 44, 45, 46, 47, 48, 49] (by decide +kernel) (by decide +kernel)
set_option maxRecDepth 20000 in
theorem gX5_part_X1_add : GoodIn wsX5_part (wsV RX5 101 RX1 yX1_add wsX1_add) := goodIn_app (goodIn_of _ (by decide +kernel)) ggX5_part_X1_add
theorem dX5_part_0 : decode cX5_part 0 = .ok (.iload_n 1, 1) := by decide +kernel
theorem dX5_part_1 : decode cX5_part 1 = .ok (.invokestatic 93, 3) := by decide +kernel
theorem dX5_part_4 : decode cX5_part 4 = .ok (.ifCond .eq 14, 3) := by decide +kernel
theorem dX5_part_7 : decode cX5_part 7 = .ok (.iload_n 2, 1) := by decide +kernel
theorem dX5_part_8 : decode cX5_part 8 = .ok (.iconst 0, 1) := by decide +kernel
theorem dX5_part_9 : decode cX5_part 9 = .ok (.sipush 9999, 3) := by decide +kernel
theorem dX5_part_12 : decode cX5_part 12 = .ok (.invokestatic 53, 3) := by decide +kernel
theorem dX5_part_15 : decode cX5_part 15 = .ok (.ifCond .ne 10, 3) := by decide +kernel
theorem dX5_part_18 : decode cX5_part 18 = .ok (.aload_n 0, 1) := by decide +kernel
theorem dX5_part_19 : decode cX5_part 19 = .ok (.ldc 57, 2) := by decide +kernel
theorem dX5_part_21 : decode cX5_part 21 = .ok (.invokevirtual 58, 3) := by decide +kernel
theorem dX5_part_24 : decode cX5_part 24 = .ok (.ireturn, 1) := by decide +kernel
theorem dX5_part_25 : decode cX5_part 25 = .ok (.aload_n 0, 1) := by decide +kernel
theorem dX5_part_26 : decode cX5_part 26 = .ok (.getfield 10, 3) := by decide +kernel
theorem dX5_part_29 : decode cX5_part 29 = .ok (.invokevirtual 97, 3) := by decide +kernel
theorem dX5_part_32 : decode cX5_part 32 = .ok (.ifCond .eq 10, 3) := by decide +kernel
theorem dX5_part_35 : decode cX5_part 35 = .ok (.aload_n 0, 1) := by decide +kernel
theorem dX5_part_36 : decode cX5_part 36 = .ok (.ldc 100, 2) := by decide +kernel
theorem dX5_part_38 : decode cX5_part 38 = .ok (.invokevirtual 58, 3) := by decide +kernel
theorem dX5_part_41 : decode cX5_part 41 = .ok (.ireturn, 1) := by decide +kernel
theorem dX5_part_42 : decode cX5_part 42 = .ok (.aload_n 0, 1) := by decide +kernel
theorem dX5_part_43 : decode cX5_part 43 = .ok (.getfield 10, 3) := by decide +kernel
theorem dX5_part_46 : decode cX5_part 46 = .ok (.iload_n 1, 1) := by decide +kernel
theorem dX5_part_47 : decode cX5_part 47 = .ok (.bipush 10, 2) := by decide +kernel
theorem dX5_part_49 : decode cX5_part 49 = .ok (.iload_n 2, 1) := by decide +kernel
theorem dX5_part_50 : decode cX5_part 50 = .ok (.iconst 0, 1) := by decide +kernel
theorem dX5_part_51 : decode cX5_part 51 = .ok (.invokevirtual 101, 3) := by decide +kernel
theorem dX5_part_54 : decode cX5_part 54 = .ok (.ireturn, 1) := by decide +kernel
set_option maxRecDepth 20000 in
theorem ggX5_of_X5_hasPart : GoodIn wsX5_of wsX5_hasPart := goodIn_r _ [12, 2, 13, 14, 15, 11, 16, 84, 85, 86, 87, 88, 89, 90, 91, 92, 93, 94, 95, 96, 97, 98, 99, 100, 101] (by decide +kernel) (by decide +kernel)
set_option maxRecDepth 20000 in
theorem gX5_of_X5_hasPart : GoodIn wsX5_of (wsV RX5 105 RX5 yX5_hasPart wsX5_hasPart) := goodIn_app (goodIn_of _ (by decide +kernel)) ggX5_of_X5_hasPart
set_option maxRecDepth 20000 in
theorem ggX5_of_X5_finding : GoodIn wsX5_of wsX5_finding := goodIn_r _ [20, 1, 21, 84, 85, 86, 87, 88, 89, 90, 91] (by decide +kernel) (by decide +kernel)
set_option maxRecDepth 20000 in
theorem gX5_of_X5_finding : GoodIn wsX5_of (wsV RX5 58 RX5 yX5_finding wsX5_finding) := goodIn_app (goodIn_of _ (by decide +kernel)) ggX5_of_X5_finding
set_option maxRecDepth 20000 in
theorem ggX5_of_X1_needs : GoodIn wsX5_of wsX1_needs := goodIn_r _ [26, 27, 28, 29, 30, 31, 32, 92, 93, 94, 95, 96, 97, 98, 99, 100, 101] (by decide +kernel) (by decide +kernel)
set_option maxRecDepth 20000 in
theorem gX5_of_X1_needs : GoodIn wsX5_of (wsV RX5 123 RX1 yX1_needs wsX1_needs) := goodIn_app (goodIn_of _ (by decide +kernel)) ggX5_of_X1_needs
set_option maxRecDepth 20000 in
theorem ggX5_of_X1_gives : GoodIn wsX5_of wsX1_gives := goodIn_r _ [36, 27, 37, 38, 39, 40, 25, 41, 42, 43, 44, 45, 46, 47, 48, 49, 31, 50, 51, 52, 53, 54, 92, 93, 94, 95, 96, 97, 98, 99, 100, 101] (by decide +kernel) (by decide +kernel)
set_option maxRecDepth 20000 in
theorem gX5_of_X1_gives : GoodIn wsX5_of (wsV RX5 126 RX1 yX1_gives wsX1_gives) := goodIn_app (goodIn_of _ (by decide +kernel)) ggX5_of_X1_gives
set_option maxRecDepth 20000 in
theorem ggX5_of_X1_undone : GoodIn wsX5_of wsX1_undone := goodIn_r _ [58, 59, 60, 61, 62, 25, 63, 64, 27, 28, 29, 30, 31, 32, 92, 93, 94, 95, 96, 97, 98, 99, 100, 101] (by decide +kernel) (by decide +kernel)
set_option maxRecDepth 20000 in
theorem gX5_of_X1_undone : GoodIn wsX5_of (wsV RX5 129 RX1 yX1_undone wsX1_undone) := goodIn_app (goodIn_of _ (by decide +kernel)) ggX5_of_X1_undone
set_option maxRecDepth 20000 in
theorem ggX5_of_X1_calls : GoodIn wsX5_of wsX1_calls := goodIn_r _ [68, 27, 28, 43, 69, 37, 60, 61, 62, 25, 63, 64, 29, 30, 31, 32, 70, 71, 72, 51, 52, 53, 54, 92, 93, 94, 95, 96, 97, 98, 99, 100, 101] (by decide +kernel) (by decide +kernel)
set_option maxRecDepth 20000 in
theorem gX5_of_X1_calls : GoodIn wsX5_of (wsV RX5 132 RX1 yX1_calls wsX1_calls) := goodIn_app (goodIn_of _ (by decide +kernel)) ggX5_of_X1_calls
set_option maxRecDepth 20000 in
theorem ggX5_of_X1_tires : GoodIn wsX5_of wsX1_tires := goodIn_r _ [76, 27, 77, 78, 31, 79, 92, 93, 94, 95, 96, 97, 98, 99, 100, 101] (by decide +kernel) (by decide +kernel)
set_option maxRecDepth 20000 in
theorem gX5_of_X1_tires : GoodIn wsX5_of (wsV RX5 136 RX1 yX1_tires wsX1_tires) := goodIn_app (goodIn_of _ (by decide +kernel)) ggX5_of_X1_tires
set_option maxRecDepth 20000 in
theorem ggX5_of_X1_isDone : GoodIn wsX5_of wsX1_isDone := goodIn_r _ [63, 64, 27, 28, 29, 30, 31, 32, 92, 93, 94, 95, 96, 97, 98, 99, 100, 101] (by decide +kernel) (by decide +kernel)
set_option maxRecDepth 20000 in
theorem gX5_of_X1_isDone : GoodIn wsX5_of (wsV RX5 139 RX1 yX1_isDone wsX1_isDone) := goodIn_app (goodIn_of _ (by decide +kernel)) ggX5_of_X1_isDone
set_option maxRecDepth 20000 in
theorem ggX5_of_X5_bit : GoodIn wsX5_of wsX5_bit := goodIn_r _ [83] (by decide +kernel) (by decide +kernel)
set_option maxRecDepth 20000 in
theorem gX5_of_X5_bit : GoodIn wsX5_of (va_wsS RX5 76 yX5_bit wsX5_bit) := goodIn_app (goodIn_of _ (by decide +kernel)) ggX5_of_X5_bit
theorem dX5_of_0 : decode cX5_of 0 = .ok (.aload_n 0, 1) := by decide +kernel
theorem dX5_of_1 : decode cX5_of 1 = .ok (.iload_n 1, 1) := by decide +kernel
theorem dX5_of_2 : decode cX5_of 2 = .ok (.invokevirtual 105, 3) := by decide +kernel
theorem dX5_of_5 : decode cX5_of 5 = .ok (.ifCond .ne 10, 3) := by decide +kernel
theorem dX5_of_8 : decode cX5_of 8 = .ok (.aload_n 0, 1) := by decide +kernel
theorem dX5_of_9 : decode cX5_of 9 = .ok (.ldc 57, 2) := by decide +kernel
theorem dX5_of_11 : decode cX5_of 11 = .ok (.invokevirtual 58, 3) := by decide +kernel
theorem dX5_of_14 : decode cX5_of 14 = .ok (.ireturn, 1) := by decide +kernel
theorem dX5_of_15 : decode cX5_of 15 = .ok (.iload_n 2, 1) := by decide +kernel
theorem dX5_of_16 : decode cX5_of 16 = .ok (.tableswitch 164 0 9 #[56, 66, 76, 86, 96, 106, 115, 124, 140, 152], 56) := by decide +kernel
theorem dX5_of_72 : decode cX5_of 72 = .ok (.aload_n 0, 1) := by decide +kernel
theorem dX5_of_73 : decode cX5_of 73 = .ok (.getfield 10, 3) := by decide +kernel
theorem dX5_of_76 : decode cX5_of 76 = .ok (.getfield 108, 3) := by decide +kernel
theorem dX5_of_79 : decode cX5_of 79 = .ok (.iload_n 1, 1) := by decide +kernel
theorem dX5_of_80 : decode cX5_of 80 = .ok (.iaload, 1) := by decide +kernel
theorem dX5_of_81 : decode cX5_of 81 = .ok (.ireturn, 1) := by decide +kernel
theorem dX5_of_82 : decode cX5_of 82 = .ok (.aload_n 0, 1) := by decide +kernel
theorem dX5_of_83 : decode cX5_of 83 = .ok (.getfield 10, 3) := by decide +kernel
theorem dX5_of_86 : decode cX5_of 86 = .ok (.getfield 111, 3) := by decide +kernel
theorem dX5_of_89 : decode cX5_of 89 = .ok (.iload_n 1, 1) := by decide +kernel
theorem dX5_of_90 : decode cX5_of 90 = .ok (.iaload, 1) := by decide +kernel
theorem dX5_of_91 : decode cX5_of 91 = .ok (.ireturn, 1) := by decide +kernel
theorem dX5_of_92 : decode cX5_of 92 = .ok (.aload_n 0, 1) := by decide +kernel
theorem dX5_of_93 : decode cX5_of 93 = .ok (.getfield 10, 3) := by decide +kernel
theorem dX5_of_96 : decode cX5_of 96 = .ok (.getfield 114, 3) := by decide +kernel
theorem dX5_of_99 : decode cX5_of 99 = .ok (.iload_n 1, 1) := by decide +kernel
theorem dX5_of_100 : decode cX5_of 100 = .ok (.iaload, 1) := by decide +kernel
theorem dX5_of_101 : decode cX5_of 101 = .ok (.ireturn, 1) := by decide +kernel
theorem dX5_of_102 : decode cX5_of 102 = .ok (.aload_n 0, 1) := by decide +kernel
theorem dX5_of_103 : decode cX5_of 103 = .ok (.getfield 10, 3) := by decide +kernel
theorem dX5_of_106 : decode cX5_of 106 = .ok (.getfield 117, 3) := by decide +kernel
theorem dX5_of_109 : decode cX5_of 109 = .ok (.iload_n 1, 1) := by decide +kernel
theorem dX5_of_110 : decode cX5_of 110 = .ok (.iaload, 1) := by decide +kernel
theorem dX5_of_111 : decode cX5_of 111 = .ok (.ireturn, 1) := by decide +kernel
theorem dX5_of_112 : decode cX5_of 112 = .ok (.aload_n 0, 1) := by decide +kernel
theorem dX5_of_113 : decode cX5_of 113 = .ok (.getfield 10, 3) := by decide +kernel
theorem dX5_of_116 : decode cX5_of 116 = .ok (.getfield 120, 3) := by decide +kernel
theorem dX5_of_119 : decode cX5_of 119 = .ok (.iload_n 1, 1) := by decide +kernel
theorem dX5_of_120 : decode cX5_of 120 = .ok (.iaload, 1) := by decide +kernel
theorem dX5_of_121 : decode cX5_of 121 = .ok (.ireturn, 1) := by decide +kernel
theorem dX5_of_122 : decode cX5_of 122 = .ok (.aload_n 0, 1) := by decide +kernel
theorem dX5_of_123 : decode cX5_of 123 = .ok (.getfield 10, 3) := by decide +kernel
theorem dX5_of_126 : decode cX5_of 126 = .ok (.iload_n 1, 1) := by decide +kernel
theorem dX5_of_127 : decode cX5_of 127 = .ok (.invokevirtual 123, 3) := by decide +kernel
theorem dX5_of_130 : decode cX5_of 130 = .ok (.ireturn, 1) := by decide +kernel
theorem dX5_of_131 : decode cX5_of 131 = .ok (.aload_n 0, 1) := by decide +kernel
theorem dX5_of_132 : decode cX5_of 132 = .ok (.getfield 10, 3) := by decide +kernel
theorem dX5_of_135 : decode cX5_of 135 = .ok (.iload_n 1, 1) := by decide +kernel
theorem dX5_of_136 : decode cX5_of 136 = .ok (.invokevirtual 126, 3) := by decide +kernel
theorem dX5_of_139 : decode cX5_of 139 = .ok (.ireturn, 1) := by decide +kernel
theorem dX5_of_140 : decode cX5_of 140 = .ok (.aload_n 0, 1) := by decide +kernel
theorem dX5_of_141 : decode cX5_of 141 = .ok (.getfield 10, 3) := by decide +kernel
theorem dX5_of_144 : decode cX5_of 144 = .ok (.iload_n 1, 1) := by decide +kernel
theorem dX5_of_145 : decode cX5_of 145 = .ok (.aload_n 0, 1) := by decide +kernel
theorem dX5_of_146 : decode cX5_of 146 = .ok (.getfield 10, 3) := by decide +kernel
theorem dX5_of_149 : decode cX5_of 149 = .ok (.invokevirtual 129, 3) := by decide +kernel
theorem dX5_of_152 : decode cX5_of 152 = .ok (.invokevirtual 132, 3) := by decide +kernel
theorem dX5_of_155 : decode cX5_of 155 = .ok (.ireturn, 1) := by decide +kernel
theorem dX5_of_156 : decode cX5_of 156 = .ok (.bipush 100, 2) := by decide +kernel
theorem dX5_of_158 : decode cX5_of 158 = .ok (.aload_n 0, 1) := by decide +kernel
theorem dX5_of_159 : decode cX5_of 159 = .ok (.getfield 10, 3) := by decide +kernel
theorem dX5_of_162 : decode cX5_of 162 = .ok (.iload_n 1, 1) := by decide +kernel
theorem dX5_of_163 : decode cX5_of 163 = .ok (.invokevirtual 136, 3) := by decide +kernel
theorem dX5_of_166 : decode cX5_of 166 = .ok (.iadd, 1) := by decide +kernel
theorem dX5_of_167 : decode cX5_of 167 = .ok (.ireturn, 1) := by decide +kernel
theorem dX5_of_168 : decode cX5_of 168 = .ok (.aload_n 0, 1) := by decide +kernel
theorem dX5_of_169 : decode cX5_of 169 = .ok (.getfield 10, 3) := by decide +kernel
theorem dX5_of_172 : decode cX5_of 172 = .ok (.iload_n 1, 1) := by decide +kernel
theorem dX5_of_173 : decode cX5_of 173 = .ok (.invokevirtual 139, 3) := by decide +kernel
theorem dX5_of_176 : decode cX5_of 176 = .ok (.invokestatic 76, 3) := by decide +kernel
theorem dX5_of_179 : decode cX5_of 179 = .ok (.ireturn, 1) := by decide +kernel
theorem dX5_of_180 : decode cX5_of 180 = .ok (.aload_n 0, 1) := by decide +kernel
theorem dX5_of_181 : decode cX5_of 181 = .ok (.ldc 57, 2) := by decide +kernel
theorem dX5_of_183 : decode cX5_of 183 = .ok (.invokevirtual 58, 3) := by decide +kernel
theorem dX5_of_186 : decode cX5_of 186 = .ok (.ireturn, 1) := by decide +kernel
set_option maxRecDepth 20000 in
theorem ggX5_set_X5_hasPart : GoodIn wsX5_set wsX5_hasPart := goodIn_r _ [11, 2, 12, 13, 14, 10, 15, 25, 26, 27, 28, 29, 30, 31, 32, 33, 34, 35, 36, 37, 38, 39, 40, 41, 42] (by decide +kernel) (by decide +kernel)
set_option maxRecDepth 20000 in
theorem gX5_set_X5_hasPart : GoodIn wsX5_set (wsV RX5 105 RX5 yX5_hasPart wsX5_hasPart) := goodIn_app (goodIn_of _ (by decide +kernel)) ggX5_set_X5_hasPart
set_option maxRecDepth 20000 in
theorem ggX5_set_X5_finding : GoodIn wsX5_set wsX5_finding := goodIn_r _ [19, 1, 20, 25, 26, 27, 28, 29, 30, 31, 32] (by decide +kernel) (by decide +kernel)
set_option maxRecDepth 20000 in
theorem gX5_set_X5_finding : GoodIn wsX5_set (wsV RX5 58 RX5 yX5_finding wsX5_finding) := goodIn_app (goodIn_of _ (by decide +kernel)) ggX5_set_X5_finding
set_option maxRecDepth 20000 in
theorem ggX5_set_X5_exchange : GoodIn wsX5_set wsX5_exchange := goodIn_r _ [24, 1, 13, 14, 10, 15, 16, 17, 18, 19, 20, 25, 26, 27, 28, 29, 30, 31, 32] (by decide +kernel) (by decide +kernel)
set_option maxRecDepth 20000 in
theorem gX5_set_X5_exchange : GoodIn wsX5_set (wsV RX5 142 RX5 yX5_exchange wsX5_exchange) := goodIn_app (goodIn_of _ (by decide +kernel)) ggX5_set_X5_exchange
theorem dX5_set_0 : decode cX5_set 0 = .ok (.aload_n 0, 1) := by decide +kernel
theorem dX5_set_1 : decode cX5_set 1 = .ok (.iload_n 1, 1) := by decide +kernel
theorem dX5_set_2 : decode cX5_set 2 = .ok (.invokevirtual 105, 3) := by decide +kernel
theorem dX5_set_5 : decode cX5_set 5 = .ok (.ifCond .ne 10, 3) := by decide +kernel
theorem dX5_set_8 : decode cX5_set 8 = .ok (.aload_n 0, 1) := by decide +kernel
theorem dX5_set_9 : decode cX5_set 9 = .ok (.ldc 57, 2) := by decide +kernel
theorem dX5_set_11 : decode cX5_set 11 = .ok (.invokevirtual 58, 3) := by decide +kernel
theorem dX5_set_14 : decode cX5_set 14 = .ok (.ireturn, 1) := by decide +kernel
theorem dX5_set_15 : decode cX5_set 15 = .ok (.iload_n 2, 1) := by decide +kernel
theorem dX5_set_16 : decode cX5_set 16 = .ok (.tableswitch 102 1 4 #[32, 49, 67, 85], 32) := by decide +kernel
theorem dX5_set_48 : decode cX5_set 48 = .ok (.aload_n 0, 1) := by decide +kernel
theorem dX5_set_49 : decode cX5_set 49 = .ok (.aload_n 0, 1) := by decide +kernel
theorem dX5_set_50 : decode cX5_set 50 = .ok (.getfield 10, 3) := by decide +kernel
theorem dX5_set_53 : decode cX5_set 53 = .ok (.getfield 111, 3) := by decide +kernel
theorem dX5_set_56 : decode cX5_set 56 = .ok (.iload_n 1, 1) := by decide +kernel
theorem dX5_set_57 : decode cX5_set 57 = .ok (.iload_n 3, 1) := by decide +kernel
theorem dX5_set_58 : decode cX5_set 58 = .ok (.iconst 1, 1) := by decide +kernel
theorem dX5_set_59 : decode cX5_set 59 = .ok (.bipush 99, 2) := by decide +kernel
theorem dX5_set_61 : decode cX5_set 61 = .ok (.invokevirtual 142, 3) := by decide +kernel
theorem dX5_set_64 : decode cX5_set 64 = .ok (.ireturn, 1) := by decide +kernel
theorem dX5_set_65 : decode cX5_set 65 = .ok (.aload_n 0, 1) := by decide +kernel
theorem dX5_set_66 : decode cX5_set 66 = .ok (.aload_n 0, 1) := by decide +kernel
theorem dX5_set_67 : decode cX5_set 67 = .ok (.getfield 10, 3) := by decide +kernel
theorem dX5_set_70 : decode cX5_set 70 = .ok (.getfield 114, 3) := by decide +kernel
theorem dX5_set_73 : decode cX5_set 73 = .ok (.iload_n 1, 1) := by decide +kernel
theorem dX5_set_74 : decode cX5_set 74 = .ok (.iload_n 3, 1) := by decide +kernel
theorem dX5_set_75 : decode cX5_set 75 = .ok (.iconst 0, 1) := by decide +kernel
theorem dX5_set_76 : decode cX5_set 76 = .ok (.sipush 9999, 3) := by decide +kernel
theorem dX5_set_79 : decode cX5_set 79 = .ok (.invokevirtual 142, 3) := by decide +kernel
theorem dX5_set_82 : decode cX5_set 82 = .ok (.ireturn, 1) := by decide +kernel
theorem dX5_set_83 : decode cX5_set 83 = .ok (.aload_n 0, 1) := by decide +kernel
theorem dX5_set_84 : decode cX5_set 84 = .ok (.aload_n 0, 1) := by decide +kernel
theorem dX5_set_85 : decode cX5_set 85 = .ok (.getfield 10, 3) := by decide +kernel
theorem dX5_set_88 : decode cX5_set 88 = .ok (.getfield 117, 3) := by decide +kernel
theorem dX5_set_91 : decode cX5_set 91 = .ok (.iload_n 1, 1) := by decide +kernel
theorem dX5_set_92 : decode cX5_set 92 = .ok (.iload_n 3, 1) := by decide +kernel
theorem dX5_set_93 : decode cX5_set 93 = .ok (.iconst 0, 1) := by decide +kernel
theorem dX5_set_94 : decode cX5_set 94 = .ok (.sipush 9999, 3) := by decide +kernel
theorem dX5_set_97 : decode cX5_set 97 = .ok (.invokevirtual 142, 3) := by decide +kernel
theorem dX5_set_100 : decode cX5_set 100 = .ok (.ireturn, 1) := by decide +kernel
theorem dX5_set_101 : decode cX5_set 101 = .ok (.aload_n 0, 1) := by decide +kernel
theorem dX5_set_102 : decode cX5_set 102 = .ok (.aload_n 0, 1) := by decide +kernel
theorem dX5_set_103 : decode cX5_set 103 = .ok (.getfield 10, 3) := by decide +kernel
theorem dX5_set_106 : decode cX5_set 106 = .ok (.getfield 120, 3) := by decide +kernel
theorem dX5_set_109 : decode cX5_set 109 = .ok (.iload_n 1, 1) := by decide +kernel
theorem dX5_set_110 : decode cX5_set 110 = .ok (.iload_n 3, 1) := by decide +kernel
theorem dX5_set_111 : decode cX5_set 111 = .ok (.iconst 0, 1) := by decide +kernel
theorem dX5_set_112 : decode cX5_set 112 = .ok (.bipush 99, 2) := by decide +kernel
theorem dX5_set_114 : decode cX5_set 114 = .ok (.invokevirtual 142, 3) := by decide +kernel
theorem dX5_set_117 : decode cX5_set 117 = .ok (.ireturn, 1) := by decide +kernel
theorem dX5_set_118 : decode cX5_set 118 = .ok (.aload_n 0, 1) := by decide +kernel
theorem dX5_set_119 : decode cX5_set 119 = .ok (.ldc 57, 2) := by decide +kernel
theorem dX5_set_121 : decode cX5_set 121 = .ok (.invokevirtual 58, 3) := by decide +kernel
theorem dX5_set_124 : decode cX5_set 124 = .ok (.ireturn, 1) := by decide +kernel
set_option maxRecDepth 20000 in
theorem ggX5_turn_X5_hasPart : GoodIn wsX5_turn wsX5_hasPart := goodIn_r _ [8, 2, 9, 10, 11, 7, 12, 22, 23, 24, 25, 26, 27, 28, 29, 30, 31, 32, 33, 34, 35, 36, 37, 38, 39] (by decide +kernel) (by decide +kernel)
set_option maxRecDepth 20000 in
theorem gX5_turn_X5_hasPart : GoodIn wsX5_turn (wsV RX5 105 RX5 yX5_hasPart wsX5_hasPart) := goodIn_app (goodIn_of _ (by decide +kernel)) ggX5_turn_X5_hasPart
set_option maxRecDepth 20000 in
theorem ggX5_turn_X5_finding : GoodIn wsX5_turn wsX5_finding := goodIn_r _ [16, 1, 17, 22, 23, 24, 25, 26, 27, 28, 29] (by decide +kernel) (by decide +kernel)
set_option maxRecDepth 20000 in
theorem gX5_turn_X5_finding : GoodIn wsX5_turn (wsV RX5 58 RX5 yX5_finding wsX5_finding) := goodIn_app (goodIn_of _ (by decide +kernel)) ggX5_turn_X5_finding
set_option maxRecDepth 20000 in
theorem ggX5_turn_X5_exchange : GoodIn wsX5_turn wsX5_exchange := goodIn_r _ [21, 1, 10, 11, 7, 12, 13, 14, 15, 16, 17, 22, 23, 24, 25, 26, 27, 28, 29] (by decide +kernel) (by decide +kernel)
set_option maxRecDepth 20000 in
theorem gX5_turn_X5_exchange : GoodIn wsX5_turn (wsV RX5 142 RX5 yX5_exchange wsX5_exchange) := goodIn_app (goodIn_of _ (by decide +kernel)) ggX5_turn_X5_exchange
theorem dX5_turn_0 : decode cX5_turn 0 = .ok (.aload_n 0, 1) := by decide +kernel
theorem dX5_turn_1 : decode cX5_turn 1 = .ok (.iload_n 1, 1) := by decide +kernel
theorem dX5_turn_2 : decode cX5_turn 2 = .ok (.invokevirtual 105, 3) := by decide +kernel
theorem dX5_turn_5 : decode cX5_turn 5 = .ok (.ifCond .ne 10, 3) := by decide +kernel
theorem dX5_turn_8 : decode cX5_turn 8 = .ok (.aload_n 0, 1) := by decide +kernel
theorem dX5_turn_9 : decode cX5_turn 9 = .ok (.ldc 57, 2) := by decide +kernel
theorem dX5_turn_11 : decode cX5_turn 11 = .ok (.invokevirtual 58, 3) := by decide +kernel
theorem dX5_turn_14 : decode cX5_turn 14 = .ok (.ireturn, 1) := by decide +kernel
theorem dX5_turn_15 : decode cX5_turn 15 = .ok (.aload_n 0, 1) := by decide +kernel
theorem dX5_turn_16 : decode cX5_turn 16 = .ok (.aload_n 0, 1) := by decide +kernel
theorem dX5_turn_17 : decode cX5_turn 17 = .ok (.getfield 10, 3) := by decide +kernel
theorem dX5_turn_20 : decode cX5_turn 20 = .ok (.getfield 108, 3) := by decide +kernel
theorem dX5_turn_23 : decode cX5_turn 23 = .ok (.iload_n 1, 1) := by decide +kernel
theorem dX5_turn_24 : decode cX5_turn 24 = .ok (.iload_n 2, 1) := by decide +kernel
theorem dX5_turn_25 : decode cX5_turn 25 = .ok (.iconst 0, 1) := by decide +kernel
theorem dX5_turn_26 : decode cX5_turn 26 = .ok (.iconst 5, 1) := by decide +kernel
theorem dX5_turn_27 : decode cX5_turn 27 = .ok (.invokevirtual 142, 3) := by decide +kernel
theorem dX5_turn_30 : decode cX5_turn 30 = .ok (.ireturn, 1) := by decide +kernel
set_option maxRecDepth 20000 in
theorem ggX5_as_X5_hasPart : GoodIn wsX5_as wsX5_hasPart := goodIn_r _ [10, 2, 11, 12, 13, 9, 14, 27, 28, 29, 30, 31, 32, 33, 34, 35, 36, 37, 38, 39, 40, 41, 42, 43, 44] (by decide +kernel) (by decide +kernel)
set_option maxRecDepth 20000 in
theorem gX5_as_X5_hasPart : GoodIn wsX5_as (wsV RX5 105 RX5 yX5_hasPart wsX5_hasPart) := goodIn_app (goodIn_of _ (by decide +kernel)) ggX5_as_X5_hasPart
set_option maxRecDepth 20000 in
theorem ggX5_as_X5_isKind : GoodIn wsX5_as wsX5_isKind := goodIn_r _ [17, 12, 13, 9, 14] (by decide +kernel) (by decide +kernel)
set_option maxRecDepth 20000 in
theorem gX5_as_X5_isKind : GoodIn wsX5_as (va_wsS RX5 93 yX5_isKind wsX5_isKind) := goodIn_app (goodIn_of _ (by decide +kernel)) ggX5_as_X5_isKind
set_option maxRecDepth 20000 in
theorem ggX5_as_X5_finding : GoodIn wsX5_as wsX5_finding := goodIn_r _ [21, 1, 22, 27, 28, 29, 30, 31, 32, 33, 34] (by decide +kernel) (by decide +kernel)
set_option maxRecDepth 20000 in
theorem gX5_as_X5_finding : GoodIn wsX5_as (wsV RX5 58 RX5 yX5_finding wsX5_finding) := goodIn_app (goodIn_of _ (by decide +kernel)) ggX5_as_X5_finding
set_option maxRecDepth 20000 in
theorem ggX5_as_X0_isUnder : GoodIn wsX5_as wsX0_isUnder := goodIn_r _ [26] (by decide +kernel) (by decide +kernel)
set_option maxRecDepth 20000 in
theorem gX5_as_X0_isUnder : GoodIn wsX5_as (va_wsS RX5 148 yX0_isUnder wsX0_isUnder) := goodIn_app (goodIn_of _ (by decide +kernel)) ggX5_as_X0_isUnder
theorem dX5_as_0 : decode cX5_as 0 = .ok (.aload_n 0, 1) := by decide +kernel
theorem dX5_as_1 : decode cX5_as 1 = .ok (.iload_n 1, 1) := by decide +kernel
theorem dX5_as_2 : decode cX5_as 2 = .ok (.invokevirtual 105, 3) := by decide +kernel
theorem dX5_as_5 : decode cX5_as 5 = .ok (.ifCond .eq 10, 3) := by decide +kernel
theorem dX5_as_8 : decode cX5_as 8 = .ok (.iload_n 2, 1) := by decide +kernel
theorem dX5_as_9 : decode cX5_as 9 = .ok (.invokestatic 93, 3) := by decide +kernel
theorem dX5_as_12 : decode cX5_as 12 = .ok (.ifCond .ne 10, 3) := by decide +kernel
theorem dX5_as_15 : decode cX5_as 15 = .ok (.aload_n 0, 1) := by decide +kernel
theorem dX5_as_16 : decode cX5_as 16 = .ok (.ldc 57, 2) := by decide +kernel
theorem dX5_as_18 : decode cX5_as 18 = .ok (.invokevirtual 58, 3) := by decide +kernel
theorem dX5_as_21 : decode cX5_as 21 = .ok (.ireturn, 1) := by decide +kernel
theorem dX5_as_22 : decode cX5_as 22 = .ok (.aload_n 0, 1) := by decide +kernel
theorem dX5_as_23 : decode cX5_as 23 = .ok (.getfield 10, 3) := by decide +kernel
theorem dX5_as_26 : decode cX5_as 26 = .ok (.getfield 108, 3) := by decide +kernel
theorem dX5_as_29 : decode cX5_as 29 = .ok (.iload_n 1, 1) := by decide +kernel
theorem dX5_as_30 : decode cX5_as 30 = .ok (.iaload, 1) := by decide +kernel
theorem dX5_as_31 : decode cX5_as 31 = .ok (.iload_n 2, 1) := by decide +kernel
theorem dX5_as_32 : decode cX5_as 32 = .ok (.invokestatic 148, 3) := by decide +kernel
theorem dX5_as_35 : decode cX5_as 35 = .ok (.ifCond .ne 10, 3) := by decide +kernel
theorem dX5_as_38 : decode cX5_as 38 = .ok (.aload_n 0, 1) := by decide +kernel
theorem dX5_as_39 : decode cX5_as 39 = .ok (.ldc 152, 2) := by decide +kernel
theorem dX5_as_41 : decode cX5_as 41 = .ok (.invokevirtual 58, 3) := by decide +kernel
theorem dX5_as_44 : decode cX5_as 44 = .ok (.ireturn, 1) := by decide +kernel
theorem dX5_as_45 : decode cX5_as 45 = .ok (.aload_n 0, 1) := by decide +kernel
theorem dX5_as_46 : decode cX5_as 46 = .ok (.getfield 10, 3) := by decide +kernel
theorem dX5_as_49 : decode cX5_as 49 = .ok (.getfield 114, 3) := by decide +kernel
theorem dX5_as_52 : decode cX5_as 52 = .ok (.iload_n 1, 1) := by decide +kernel
theorem dX5_as_53 : decode cX5_as 53 = .ok (.iaload, 1) := by decide +kernel
theorem dX5_as_54 : decode cX5_as 54 = .ok (.ireturn, 1) := by decide +kernel
set_option maxRecDepth 20000 in
theorem ggX5_left_X5_hasPart : GoodIn wsX5_left wsX5_hasPart := goodIn_r _ [12, 2, 13, 14, 15, 11, 16, 33, 34, 35, 36, 37, 38, 39, 40, 41, 42, 43, 44, 45, 46, 47, 48, 49, 50] (by decide +kernel) (by decide +kernel)
set_option maxRecDepth 20000 in
theorem gX5_left_X5_hasPart : GoodIn wsX5_left (wsV RX5 105 RX5 yX5_hasPart wsX5_hasPart) := goodIn_app (goodIn_of _ (by decide +kernel)) ggX5_left_X5_hasPart
set_option maxRecDepth 20000 in
theorem ggX5_left_X5_finding : GoodIn wsX5_left wsX5_finding := goodIn_r _ [20, 1, 21, 33, 34, 35, 36, 37, 38, 39, 40] (by decide +kernel) (by decide +kernel)
set_option maxRecDepth 20000 in
theorem gX5_left_X5_finding : GoodIn wsX5_left (wsV RX5 58 RX5 yX5_finding wsX5_finding) := goodIn_app (goodIn_of _ (by decide +kernel)) ggX5_left_X5_finding
set_option maxRecDepth 20000 in
theorem ggX5_left_X1_needs : GoodIn wsX5_left wsX1_needs := goodIn_r _ [26, 27, 28, 29, 30, 31, 32, 41, 42, 43, 44, 45, 46, 47, 48, 49, 50] (by decide +kernel) (by decide +kernel)
set_option maxRecDepth 20000 in
theorem gX5_left_X1_needs : GoodIn wsX5_left (wsV RX5 123 RX1 yX1_needs wsX1_needs) := goodIn_app (goodIn_of _ (by decide +kernel)) ggX5_left_X1_needs
theorem dX5_left_0 : decode cX5_left 0 = .ok (.aload_n 0, 1) := by decide +kernel
theorem dX5_left_1 : decode cX5_left 1 = .ok (.iload_n 1, 1) := by decide +kernel
theorem dX5_left_2 : decode cX5_left 2 = .ok (.invokevirtual 105, 3) := by decide +kernel
theorem dX5_left_5 : decode cX5_left 5 = .ok (.ifCond .ne 10, 3) := by decide +kernel
theorem dX5_left_8 : decode cX5_left 8 = .ok (.aload_n 0, 1) := by decide +kernel
theorem dX5_left_9 : decode cX5_left 9 = .ok (.ldc 57, 2) := by decide +kernel
theorem dX5_left_11 : decode cX5_left 11 = .ok (.invokevirtual 58, 3) := by decide +kernel
theorem dX5_left_14 : decode cX5_left 14 = .ok (.ireturn, 1) := by decide +kernel
theorem dX5_left_15 : decode cX5_left 15 = .ok (.iconst 0, 1) := by decide +kernel
theorem dX5_left_16 : decode cX5_left 16 = .ok (.aload_n 0, 1) := by decide +kernel
theorem dX5_left_17 : decode cX5_left 17 = .ok (.getfield 10, 3) := by decide +kernel
theorem dX5_left_20 : decode cX5_left 20 = .ok (.iload_n 1, 1) := by decide +kernel
theorem dX5_left_21 : decode cX5_left 21 = .ok (.invokevirtual 123, 3) := by decide +kernel
theorem dX5_left_24 : decode cX5_left 24 = .ok (.aload_n 0, 1) := by decide +kernel
theorem dX5_left_25 : decode cX5_left 25 = .ok (.getfield 10, 3) := by decide +kernel
theorem dX5_left_28 : decode cX5_left 28 = .ok (.getfield 114, 3) := by decide +kernel
theorem dX5_left_31 : decode cX5_left 31 = .ok (.iload_n 1, 1) := by decide +kernel
theorem dX5_left_32 : decode cX5_left 32 = .ok (.iaload, 1) := by decide +kernel
theorem dX5_left_33 : decode cX5_left 33 = .ok (.isub, 1) := by decide +kernel
theorem dX5_left_34 : decode cX5_left 34 = .ok (.invokestatic 153, 3) := by decide +kernel
theorem dX5_left_37 : decode cX5_left 37 = .ok (.ireturn, 1) := by decide +kernel
set_option maxRecDepth 20000 in
theorem ggX5_days_X5_inside : GoodIn wsX5_days wsX5_inside := goodIn_r _ [8] (by decide +kernel) (by decide +kernel)
set_option maxRecDepth 20000 in
theorem gX5_days_X5_inside : GoodIn wsX5_days (va_wsS RX5 53 yX5_inside wsX5_inside) := goodIn_app (goodIn_of _ (by decide +kernel)) ggX5_days_X5_inside
set_option maxRecDepth 20000 in
theorem ggX5_days_X5_finding : GoodIn wsX5_days wsX5_finding := goodIn_r _ [12, 1, 13, 94, 95, 96, 97, 98, 99, 100, 101] (by decide +kernel) (by decide +kernel)
set_option maxRecDepth 20000 in
theorem gX5_days_X5_finding : GoodIn wsX5_days (wsV RX5 58 RX5 yX5_finding wsX5_finding) := goodIn_app (goodIn_of _ (by decide +kernel)) ggX5_days_X5_finding
set_option maxRecDepth 20000 in
theorem ggX5_days_X1_passDays : GoodIn wsX5_days wsX1_passDays := goodIn_r _ [18, 19, 20, 21, 17, 22, 23, 24, 25, 26, 27, 28, 29, 30, 31, 32, 33, 34, 35, 36, 37, 38, 39, 40, 41, 42, 43, 44, 45, 46, 47, 48, 49, 50, 51, 52, 53, 54, 55, 56, 57, 58, 59, 60, 61, 62, 63, 64, 65, 66, 67, 68, 69, 70, 71, 72, 73, 74, 75, 76, 77, 78, 79, 80, 81, 82, 83, 84, 85, 86, 87, 88, 89, 102, 103, 104, 105, 106, 107, 108, 109, 110, 111] (by decide +kernel) (by decide +kernel)
set_option maxRecDepth 20000 in
theorem gX5_days_X1_passDays : GoodIn wsX5_days (wsV RX5 159 RX1 yX1_passDays wsX1_passDays) := goodIn_app (goodIn_of _ (by decide +kernel)) ggX5_days_X1_passDays
set_option maxRecDepth 20000 in
theorem ggX5_days_X1_doneSet : GoodIn wsX5_days wsX1_doneSet := goodIn_r _ [93, 28, 39, 40, 41, 17, 42, 43, 44, 45, 46, 47, 48, 49, 102, 103, 104, 105, 106, 107, 108, 109, 110, 111] (by decide +kernel) (by decide +kernel)
set_option maxRecDepth 20000 in
theorem gX5_days_X1_doneSet : GoodIn wsX5_days (wsV RX5 87 RX1 yX1_doneSet wsX1_doneSet) := goodIn_app (goodIn_of _ (by decide +kernel)) ggX5_days_X1_doneSet
theorem dX5_days_0 : decode cX5_days 0 = .ok (.iload_n 1, 1) := by decide +kernel
theorem dX5_days_1 : decode cX5_days 1 = .ok (.iconst 1, 1) := by decide +kernel
theorem dX5_days_2 : decode cX5_days 2 = .ok (.bipush 100, 2) := by decide +kernel
theorem dX5_days_4 : decode cX5_days 4 = .ok (.invokestatic 53, 3) := by decide +kernel
theorem dX5_days_7 : decode cX5_days 7 = .ok (.ifCond .ne 10, 3) := by decide +kernel
theorem dX5_days_10 : decode cX5_days 10 = .ok (.aload_n 0, 1) := by decide +kernel
theorem dX5_days_11 : decode cX5_days 11 = .ok (.ldc 57, 2) := by decide +kernel
theorem dX5_days_13 : decode cX5_days 13 = .ok (.invokevirtual 58, 3) := by decide +kernel
theorem dX5_days_16 : decode cX5_days 16 = .ok (.ireturn, 1) := by decide +kernel
theorem dX5_days_17 : decode cX5_days 17 = .ok (.aload_n 0, 1) := by decide +kernel
theorem dX5_days_18 : decode cX5_days 18 = .ok (.getfield 10, 3) := by decide +kernel
theorem dX5_days_21 : decode cX5_days 21 = .ok (.getfield 69, 3) := by decide +kernel
theorem dX5_days_24 : decode cX5_days 24 = .ok (.iload_n 1, 1) := by decide +kernel
theorem dX5_days_25 : decode cX5_days 25 = .ok (.iadd, 1) := by decide +kernel
theorem dX5_days_26 : decode cX5_days 26 = .ok (.sipush 9999, 3) := by decide +kernel
theorem dX5_days_29 : decode cX5_days 29 = .ok (.if_icmp .le 10, 3) := by decide +kernel
theorem dX5_days_32 : decode cX5_days 32 = .ok (.aload_n 0, 1) := by decide +kernel
theorem dX5_days_33 : decode cX5_days 33 = .ok (.ldc 158, 2) := by decide +kernel
theorem dX5_days_35 : decode cX5_days 35 = .ok (.invokevirtual 58, 3) := by decide +kernel
theorem dX5_days_38 : decode cX5_days 38 = .ok (.ireturn, 1) := by decide +kernel
theorem dX5_days_39 : decode cX5_days 39 = .ok (.aload_n 0, 1) := by decide +kernel
theorem dX5_days_40 : decode cX5_days 40 = .ok (.getfield 10, 3) := by decide +kernel
theorem dX5_days_43 : decode cX5_days 43 = .ok (.iload_n 1, 1) := by decide +kernel
theorem dX5_days_44 : decode cX5_days 44 = .ok (.invokevirtual 159, 3) := by decide +kernel
theorem dX5_days_47 : decode cX5_days 47 = .ok (.aload_n 0, 1) := by decide +kernel
theorem dX5_days_48 : decode cX5_days 48 = .ok (.getfield 10, 3) := by decide +kernel
theorem dX5_days_51 : decode cX5_days 51 = .ok (.invokevirtual 87, 3) := by decide +kernel
theorem dX5_days_54 : decode cX5_days 54 = .ok (.ireturn, 1) := by decide +kernel
set_option maxRecDepth 20000 in
theorem ggX5_on_X5_hasPart : GoodIn wsX5_on wsX5_hasPart := goodIn_r _ [7, 8, 9, 10, 11, 6, 12, 121, 122, 123, 124, 125, 126, 127, 128, 111, 112, 113, 114, 115, 116, 117, 118, 119, 120] (by decide +kernel) (by decide +kernel)
set_option maxRecDepth 20000 in
theorem gX5_on_X5_hasPart : GoodIn wsX5_on (wsV RX5 105 RX5 yX5_hasPart wsX5_hasPart) := goodIn_app (goodIn_of _ (by decide +kernel)) ggX5_on_X5_hasPart
set_option maxRecDepth 20000 in
theorem ggX5_on_X5_inside : GoodIn wsX5_on wsX5_inside := goodIn_r _ [12] (by decide +kernel) (by decide +kernel)
set_option maxRecDepth 20000 in
theorem gX5_on_X5_inside : GoodIn wsX5_on (va_wsS RX5 53 yX5_inside wsX5_inside) := goodIn_app (goodIn_of _ (by decide +kernel)) ggX5_on_X5_inside
set_option maxRecDepth 20000 in
theorem ggX5_on_X5_finding : GoodIn wsX5_on wsX5_finding := goodIn_r _ [16, 1, 17, 121, 122, 123, 124, 125, 126, 127, 128] (by decide +kernel) (by decide +kernel)
set_option maxRecDepth 20000 in
theorem gX5_on_X5_finding : GoodIn wsX5_on (wsV RX5 58 RX5 yX5_finding wsX5_finding) := goodIn_app (goodIn_of _ (by decide +kernel)) ggX5_on_X5_finding
set_option maxRecDepth 20000 in
theorem ggX5_on_X5_rehearsal : GoodIn wsX5_on wsX5_rehearsal := goodIn_r _ [21, 22, 8, 23, 24, 25, 26, 27, 28, 29, 30, 31, 32, 33, 34, 35, 36, 37, 38, 39, 40, 41, 121, 122, 123, 124, 125, 126, 127, 128, 111, 112, 113, 114, 115, 116, 117, 118, 119, 120] (by decide +kernel) (by decide +kernel)
set_option maxRecDepth 20000 in
theorem gX5_on_X5_rehearsal : GoodIn wsX5_on (wsV RX5 163 RX5 yX5_rehearsal wsX5_rehearsal) := goodIn_app (goodIn_of _ (by decide +kernel)) ggX5_on_X5_rehearsal
set_option maxRecDepth 20000 in
theorem ggX5_on_X1_passDays : GoodIn wsX5_on wsX1_passDays := goodIn_r _ [45, 46, 47, 48, 26, 49, 29, 50, 51, 52, 53, 31, 41, 28, 54, 55, 56, 57, 58, 59, 60, 61, 62, 63, 64, 65, 39, 37, 38, 66, 67, 68, 69, 70, 71, 72, 73, 40, 74, 75, 76, 77, 78, 79, 80, 81, 82, 83, 84, 30, 85, 86, 87, 88, 89, 90, 91, 92, 32, 93, 94, 95, 96, 97, 98, 99, 100, 101, 102, 103, 104, 105, 106, 111, 112, 113, 114, 115, 116, 117, 118, 119, 120] (by decide +kernel) (by decide +kernel)
set_option maxRecDepth 20000 in
theorem gX5_on_X1_passDays : GoodIn wsX5_on (wsV RX5 159 RX1 yX1_passDays wsX1_passDays) := goodIn_app (goodIn_of _ (by decide +kernel)) ggX5_on_X1_passDays
set_option maxRecDepth 20000 in
theorem ggX5_on_X1_isDone : GoodIn wsX5_on wsX1_isDone := goodIn_r _ [65, 39, 37, 38, 66, 67, 68, 69, 111, 112, 113, 114, 115, 116, 117, 118, 119, 120] (by decide +kernel) (by decide +kernel)
set_option maxRecDepth 20000 in
theorem gX5_on_X1_isDone : GoodIn wsX5_on (wsV RX5 139 RX1 yX1_isDone wsX1_isDone) := goodIn_app (goodIn_of _ (by decide +kernel)) ggX5_on_X1_isDone
set_option maxRecDepth 20000 in
theorem ggX5_on_X5_bit : GoodIn wsX5_on wsX5_bit := goodIn_r _ [110] (by decide +kernel) (by decide +kernel)
set_option maxRecDepth 20000 in
theorem gX5_on_X5_bit : GoodIn wsX5_on (va_wsS RX5 76 yX5_bit wsX5_bit) := goodIn_app (goodIn_of _ (by decide +kernel)) ggX5_on_X5_bit
theorem dX5_on_0 : decode cX5_on 0 = .ok (.aload_n 0, 1) := by decide +kernel
theorem dX5_on_1 : decode cX5_on 1 = .ok (.iload_n 1, 1) := by decide +kernel
theorem dX5_on_2 : decode cX5_on 2 = .ok (.invokevirtual 105, 3) := by decide +kernel
theorem dX5_on_5 : decode cX5_on 5 = .ok (.ifCond .eq 23, 3) := by decide +kernel
theorem dX5_on_8 : decode cX5_on 8 = .ok (.iload_n 2, 1) := by decide +kernel
theorem dX5_on_9 : decode cX5_on 9 = .ok (.iconst 0, 1) := by decide +kernel
theorem dX5_on_10 : decode cX5_on 10 = .ok (.sipush 400, 3) := by decide +kernel
theorem dX5_on_13 : decode cX5_on 13 = .ok (.invokestatic 53, 3) := by decide +kernel
theorem dX5_on_16 : decode cX5_on 16 = .ok (.ifCond .eq 12, 3) := by decide +kernel
theorem dX5_on_19 : decode cX5_on 19 = .ok (.iload_n 3, 1) := by decide +kernel
theorem dX5_on_20 : decode cX5_on 20 = .ok (.iconst 0, 1) := by decide +kernel
theorem dX5_on_21 : decode cX5_on 21 = .ok (.iconst 1, 1) := by decide +kernel
theorem dX5_on_22 : decode cX5_on 22 = .ok (.invokestatic 53, 3) := by decide +kernel
theorem dX5_on_25 : decode cX5_on 25 = .ok (.ifCond .ne 10, 3) := by decide +kernel
theorem dX5_on_28 : decode cX5_on 28 = .ok (.aload_n 0, 1) := by decide +kernel
theorem dX5_on_29 : decode cX5_on 29 = .ok (.ldc 57, 2) := by decide +kernel
theorem dX5_on_31 : decode cX5_on 31 = .ok (.invokevirtual 58, 3) := by decide +kernel
theorem dX5_on_34 : decode cX5_on 34 = .ok (.ireturn, 1) := by decide +kernel
theorem dX5_on_35 : decode cX5_on 35 = .ok (.aload_n 0, 1) := by decide +kernel
theorem dX5_on_36 : decode cX5_on 36 = .ok (.invokevirtual 163, 3) := by decide +kernel
theorem dX5_on_39 : decode cX5_on 39 = .ok (.astore 4, 2) := by decide +kernel
theorem dX5_on_41 : decode cX5_on 41 = .ok (.aload 4, 2) := by decide +kernel
theorem dX5_on_43 : decode cX5_on 43 = .ok (.iload_n 2, 1) := by decide +kernel
theorem dX5_on_44 : decode cX5_on 44 = .ok (.invokevirtual 159, 3) := by decide +kernel
theorem dX5_on_47 : decode cX5_on 47 = .ok (.iload_n 3, 1) := by decide +kernel
theorem dX5_on_48 : decode cX5_on 48 = .ok (.ifCond .ne 13, 3) := by decide +kernel
theorem dX5_on_51 : decode cX5_on 51 = .ok (.aload 4, 2) := by decide +kernel
theorem dX5_on_53 : decode cX5_on 53 = .ok (.getfield 114, 3) := by decide +kernel
theorem dX5_on_56 : decode cX5_on 56 = .ok (.iload_n 1, 1) := by decide +kernel
theorem dX5_on_57 : decode cX5_on 57 = .ok (.iaload, 1) := by decide +kernel
theorem dX5_on_58 : decode cX5_on 58 = .ok (.goto 12, 3) := by decide +kernel
theorem dX5_on_61 : decode cX5_on 61 = .ok (.aload 4, 2) := by decide +kernel
theorem dX5_on_63 : decode cX5_on 63 = .ok (.iload_n 1, 1) := by decide +kernel
theorem dX5_on_64 : decode cX5_on 64 = .ok (.invokevirtual 139, 3) := by decide +kernel
theorem dX5_on_67 : decode cX5_on 67 = .ok (.invokestatic 76, 3) := by decide +kernel
theorem dX5_on_70 : decode cX5_on 70 = .ok (.ireturn, 1) := by decide +kernel
set_option maxRecDepth 20000 in
theorem ggX5_then_X5_inside : GoodIn wsX5_then wsX5_inside := goodIn_r _ [8] (by decide +kernel) (by decide +kernel)
set_option maxRecDepth 20000 in
theorem gX5_then_X5_inside : GoodIn wsX5_then (va_wsS RX5 53 yX5_inside wsX5_inside) := goodIn_app (goodIn_of _ (by decide +kernel)) ggX5_then_X5_inside
set_option maxRecDepth 20000 in
theorem ggX5_then_X5_finding : GoodIn wsX5_then wsX5_finding := goodIn_r _ [12, 1, 13, 115, 116, 117, 118, 119, 120, 121, 122] (by decide +kernel) (by decide +kernel)
set_option maxRecDepth 20000 in
theorem gX5_then_X5_finding : GoodIn wsX5_then (wsV RX5 58 RX5 yX5_finding wsX5_finding) := goodIn_app (goodIn_of _ (by decide +kernel)) ggX5_then_X5_finding
set_option maxRecDepth 20000 in
theorem ggX5_then_X5_rehearsal : GoodIn wsX5_then wsX5_rehearsal := goodIn_r _ [17, 18, 19, 20, 21, 22, 23, 24, 25, 26, 27, 28, 29, 30, 31, 32, 33, 34, 35, 36, 37, 38, 115, 116, 117, 118, 119, 120, 121, 122, 105, 106, 107, 108, 109, 110, 111, 112, 113, 114] (by decide +kernel) (by decide +kernel)
set_option maxRecDepth 20000 in
theorem gX5_then_X5_rehearsal : GoodIn wsX5_then (wsV RX5 163 RX5 yX5_rehearsal wsX5_rehearsal) := goodIn_app (goodIn_of _ (by decide +kernel)) ggX5_then_X5_rehearsal
set_option maxRecDepth 20000 in
theorem ggX5_then_X1_passDays : GoodIn wsX5_then wsX1_passDays := goodIn_r _ [42, 43, 44, 45, 23, 46, 26, 47, 48, 49, 50, 28, 38, 25, 51, 52, 53, 54, 55, 56, 57, 58, 59, 60, 61, 62, 36, 34, 35, 63, 64, 65, 66, 67, 68, 69, 70, 37, 71, 72, 73, 74, 75, 76, 77, 78, 79, 80, 81, 27, 82, 83, 84, 85, 86, 87, 88, 89, 29, 90, 91, 92, 93, 94, 95, 96, 97, 98, 99, 100, 101, 102, 103, 105, 106, 107, 108, 109, 110, 111, 112, 113, 114] (by decide +kernel) (by decide +kernel)
set_option maxRecDepth 20000 in
theorem gX5_then_X1_passDays : GoodIn wsX5_then (wsV RX5 159 RX1 yX1_passDays wsX1_passDays) := goodIn_app (goodIn_of _ (by decide +kernel)) ggX5_then_X1_passDays
set_option maxRecDepth 20000 in
theorem ggX5_then_X1_undone : GoodIn wsX5_then wsX1_undone := goodIn_r _ [58, 28, 59, 60, 61, 23, 62, 36, 34, 35, 63, 64, 65, 66, 105, 106, 107, 108, 109, 110, 111, 112, 113, 114] (by decide +kernel) (by decide +kernel)
set_option maxRecDepth 20000 in
theorem gX5_then_X1_undone : GoodIn wsX5_then (wsV RX5 129 RX1 yX1_undone wsX1_undone) := goodIn_app (goodIn_of _ (by decide +kernel)) ggX5_then_X1_undone
theorem dX5_then_0 : decode cX5_then 0 = .ok (.iload_n 1, 1) := by decide +kernel
theorem dX5_then_1 : decode cX5_then 1 = .ok (.iconst 0, 1) := by decide +kernel
theorem dX5_then_2 : decode cX5_then 2 = .ok (.sipush 400, 3) := by decide +kernel
theorem dX5_then_5 : decode cX5_then 5 = .ok (.invokestatic 53, 3) := by decide +kernel
theorem dX5_then_8 : decode cX5_then 8 = .ok (.ifCond .eq 12, 3) := by decide +kernel
theorem dX5_then_11 : decode cX5_then 11 = .ok (.iload_n 2, 1) := by decide +kernel
theorem dX5_then_12 : decode cX5_then 12 = .ok (.iconst 0, 1) := by decide +kernel
theorem dX5_then_13 : decode cX5_then 13 = .ok (.iconst 2, 1) := by decide +kernel
theorem dX5_then_14 : decode cX5_then 14 = .ok (.invokestatic 53, 3) := by decide +kernel
theorem dX5_then_17 : decode cX5_then 17 = .ok (.ifCond .ne 10, 3) := by decide +kernel
theorem dX5_then_20 : decode cX5_then 20 = .ok (.aload_n 0, 1) := by decide +kernel
theorem dX5_then_21 : decode cX5_then 21 = .ok (.ldc 57, 2) := by decide +kernel
theorem dX5_then_23 : decode cX5_then 23 = .ok (.invokevirtual 58, 3) := by decide +kernel
theorem dX5_then_26 : decode cX5_then 26 = .ok (.ireturn, 1) := by decide +kernel
theorem dX5_then_27 : decode cX5_then 27 = .ok (.aload_n 0, 1) := by decide +kernel
theorem dX5_then_28 : decode cX5_then 28 = .ok (.invokevirtual 163, 3) := by decide +kernel
theorem dX5_then_31 : decode cX5_then 31 = .ok (.astore_n 3, 1) := by decide +kernel
theorem dX5_then_32 : decode cX5_then 32 = .ok (.aload_n 3, 1) := by decide +kernel
theorem dX5_then_33 : decode cX5_then 33 = .ok (.iload_n 1, 1) := by decide +kernel
theorem dX5_then_34 : decode cX5_then 34 = .ok (.invokevirtual 159, 3) := by decide +kernel
theorem dX5_then_37 : decode cX5_then 37 = .ok (.iload_n 2, 1) := by decide +kernel
theorem dX5_then_38 : decode cX5_then 38 = .ok (.ifCond .ne 8, 3) := by decide +kernel
theorem dX5_then_41 : decode cX5_then 41 = .ok (.aload_n 3, 1) := by decide +kernel
theorem dX5_then_42 : decode cX5_then 42 = .ok (.getfield 62, 3) := by decide +kernel
theorem dX5_then_45 : decode cX5_then 45 = .ok (.ireturn, 1) := by decide +kernel
theorem dX5_then_46 : decode cX5_then 46 = .ok (.iload_n 2, 1) := by decide +kernel
theorem dX5_then_47 : decode cX5_then 47 = .ok (.iconst 1, 1) := by decide +kernel
theorem dX5_then_48 : decode cX5_then 48 = .ok (.if_icmp .ne 10, 3) := by decide +kernel
theorem dX5_then_51 : decode cX5_then 51 = .ok (.aload_n 3, 1) := by decide +kernel
theorem dX5_then_52 : decode cX5_then 52 = .ok (.getfield 80, 3) := by decide +kernel
theorem dX5_then_55 : decode cX5_then 55 = .ok (.goto 12, 3) := by decide +kernel
theorem dX5_then_58 : decode cX5_then 58 = .ok (.aload_n 3, 1) := by decide +kernel
theorem dX5_then_59 : decode cX5_then 59 = .ok (.getfield 167, 3) := by decide +kernel
theorem dX5_then_62 : decode cX5_then 62 = .ok (.aload_n 3, 1) := by decide +kernel
theorem dX5_then_63 : decode cX5_then 63 = .ok (.invokevirtual 129, 3) := by decide +kernel
theorem dX5_then_66 : decode cX5_then 66 = .ok (.isub, 1) := by decide +kernel
theorem dX5_then_67 : decode cX5_then 67 = .ok (.ireturn, 1) := by decide +kernel
set_option maxRecDepth 20000 in
theorem ggX5_done_X5_hasPart : GoodIn wsX5_done wsX5_hasPart := goodIn_r _ [6, 7, 8, 9, 10, 5, 11, 113, 114, 115, 116, 117, 118, 119, 120, 121, 122, 123, 124, 125, 126, 127, 128, 129, 130] (by decide +kernel) (by decide +kernel)
set_option maxRecDepth 20000 in
theorem gX5_done_X5_hasPart : GoodIn wsX5_done (wsV RX5 105 RX5 yX5_hasPart wsX5_hasPart) := goodIn_app (goodIn_of _ (by decide +kernel)) ggX5_done_X5_hasPart
set_option maxRecDepth 20000 in
theorem ggX5_done_X5_finding : GoodIn wsX5_done wsX5_finding := goodIn_r _ [15, 1, 16, 113, 114, 115, 116, 117, 118, 119, 120] (by decide +kernel) (by decide +kernel)
set_option maxRecDepth 20000 in
theorem gX5_done_X5_finding : GoodIn wsX5_done (wsV RX5 58 RX5 yX5_finding wsX5_finding) := goodIn_app (goodIn_of _ (by decide +kernel)) ggX5_done_X5_finding
set_option maxRecDepth 20000 in
theorem ggX5_done_X5_rehearsal : GoodIn wsX5_done wsX5_rehearsal := goodIn_r _ [20, 21, 7, 22, 23, 24, 25, 26, 27, 28, 29, 30, 31, 32, 33, 34, 35, 36, 37, 38, 39, 40, 113, 114, 115, 116, 117, 118, 119, 120, 121, 122, 123, 124, 125, 126, 127, 128, 129, 130] (by decide +kernel) (by decide +kernel)
set_option maxRecDepth 20000 in
theorem gX5_done_X5_rehearsal : GoodIn wsX5_done (wsV RX5 163 RX5 yX5_rehearsal wsX5_rehearsal) := goodIn_app (goodIn_of _ (by decide +kernel)) ggX5_done_X5_rehearsal
set_option maxRecDepth 20000 in
theorem ggX5_done_X1_daysTillDone : GoodIn wsX5_done wsX1_daysTillDone := goodIn_r _ [44, 45, 46, 47, 48, 25, 49, 38, 36, 37, 50, 51, 52, 53, 54, 55, 56, 57, 28, 58, 59, 60, 61, 30, 40, 27, 62, 63, 64, 65, 66, 67, 68, 69, 70, 71, 72, 73, 39, 74, 75, 76, 77, 78, 79, 80, 81, 82, 83, 84, 29, 85, 86, 87, 88, 89, 90, 91, 92, 31, 93, 94, 95, 96, 97, 98, 99, 100, 101, 102, 103, 104, 105, 106, 121, 122, 123, 124, 125, 126, 127, 128, 129, 130] (by decide +kernel) (by decide +kernel)
set_option maxRecDepth 20000 in
theorem gX5_done_X1_daysTillDone : GoodIn wsX5_done (wsV RX5 170 RX1 yX1_daysTillDone wsX1_daysTillDone) := goodIn_app (goodIn_of _ (by decide +kernel)) ggX5_done_X1_daysTillDone
set_option maxRecDepth 20000 in
theorem ggX5_done_X5_daysOrNone : GoodIn wsX5_done wsX5_daysOrNone := goodIn_r _ [110, 111, 112, 12, 13, 14, 5, 15, 1, 16, 113, 114, 115, 116, 117, 118, 119, 120] (by decide +kernel) (by decide +kernel)
set_option maxRecDepth 20000 in
theorem gX5_done_X5_daysOrNone : GoodIn wsX5_done (wsV RX5 173 RX5 yX5_daysOrNone wsX5_daysOrNone) := goodIn_app (goodIn_of _ (by decide +kernel)) ggX5_done_X5_daysOrNone
theorem dX5_done_0 : decode cX5_done 0 = .ok (.aload_n 0, 1) := by decide +kernel
theorem dX5_done_1 : decode cX5_done 1 = .ok (.iload_n 1, 1) := by decide +kernel
theorem dX5_done_2 : decode cX5_done 2 = .ok (.invokevirtual 105, 3) := by decide +kernel
theorem dX5_done_5 : decode cX5_done 5 = .ok (.ifCond .ne 10, 3) := by decide +kernel
theorem dX5_done_8 : decode cX5_done 8 = .ok (.aload_n 0, 1) := by decide +kernel
theorem dX5_done_9 : decode cX5_done 9 = .ok (.ldc 57, 2) := by decide +kernel
theorem dX5_done_11 : decode cX5_done 11 = .ok (.invokevirtual 58, 3) := by decide +kernel
theorem dX5_done_14 : decode cX5_done 14 = .ok (.ireturn, 1) := by decide +kernel
theorem dX5_done_15 : decode cX5_done 15 = .ok (.aload_n 0, 1) := by decide +kernel
theorem dX5_done_16 : decode cX5_done 16 = .ok (.aload_n 0, 1) := by decide +kernel
theorem dX5_done_17 : decode cX5_done 17 = .ok (.invokevirtual 163, 3) := by decide +kernel
theorem dX5_done_20 : decode cX5_done 20 = .ok (.iload_n 1, 1) := by decide +kernel
theorem dX5_done_21 : decode cX5_done 21 = .ok (.sipush 400, 3) := by decide +kernel
theorem dX5_done_24 : decode cX5_done 24 = .ok (.invokevirtual 170, 3) := by decide +kernel
theorem dX5_done_27 : decode cX5_done 27 = .ok (.invokevirtual 173, 3) := by decide +kernel
theorem dX5_done_30 : decode cX5_done 30 = .ok (.ireturn, 1) := by decide +kernel
set_option maxRecDepth 20000 in
theorem ggX5_all_X5_rehearsal : GoodIn wsX5_all wsX5_rehearsal := goodIn_r _ [5, 6, 7, 8, 9, 10, 11, 12, 13, 14, 15, 16, 17, 18, 19, 20, 21, 22, 23, 24, 25, 26, 105, 106, 107, 108, 109, 110, 111, 112, 113, 114, 115, 116, 117, 118, 119, 120, 121, 122] (by decide +kernel) (by decide +kernel)
set_option maxRecDepth 20000 in
theorem gX5_all_X5_rehearsal : GoodIn wsX5_all (wsV RX5 163 RX5 yX5_rehearsal wsX5_rehearsal) := goodIn_app (goodIn_of _ (by decide +kernel)) ggX5_all_X5_rehearsal
set_option maxRecDepth 20000 in
theorem ggX5_all_X1_daysTillAllDone : GoodIn wsX5_all wsX1_daysTillAllDone := goodIn_r _ [30, 31, 32, 33, 34, 11, 35, 16, 36, 37, 38, 39, 24, 22, 23, 40, 41, 42, 43, 44, 45, 46, 47, 14, 48, 49, 50, 51, 26, 13, 52, 53, 54, 55, 56, 57, 58, 59, 25, 60, 61, 62, 63, 64, 65, 66, 67, 68, 69, 70, 15, 71, 72, 73, 74, 75, 76, 77, 78, 17, 79, 80, 81, 82, 83, 84, 85, 86, 87, 88, 89, 90, 91, 92, 113, 114, 115, 116, 117, 118, 119, 120, 121, 122] (by decide +kernel) (by decide +kernel)
set_option maxRecDepth 20000 in
theorem gX5_all_X1_daysTillAllDone : GoodIn wsX5_all (wsV RX5 176 RX1 yX1_daysTillAllDone wsX1_daysTillAllDone) := goodIn_app (goodIn_of _ (by decide +kernel)) ggX5_all_X1_daysTillAllDone
set_option maxRecDepth 20000 in
theorem ggX5_all_X5_daysOrNone : GoodIn wsX5_all wsX5_daysOrNone := goodIn_r _ [96, 97, 98, 99, 100, 101, 4, 102, 103, 104, 105, 106, 107, 108, 109, 110, 111, 112] (by decide +kernel) (by decide +kernel)
set_option maxRecDepth 20000 in
theorem gX5_all_X5_daysOrNone : GoodIn wsX5_all (wsV RX5 173 RX5 yX5_daysOrNone wsX5_daysOrNone) := goodIn_app (goodIn_of _ (by decide +kernel)) ggX5_all_X5_daysOrNone
theorem dX5_all_0 : decode cX5_all 0 = .ok (.aload_n 0, 1) := by decide +kernel
theorem dX5_all_1 : decode cX5_all 1 = .ok (.aload_n 0, 1) := by decide +kernel
theorem dX5_all_2 : decode cX5_all 2 = .ok (.invokevirtual 163, 3) := by decide +kernel
theorem dX5_all_5 : decode cX5_all 5 = .ok (.sipush 400, 3) := by decide +kernel
theorem dX5_all_8 : decode cX5_all 8 = .ok (.invokevirtual 176, 3) := by decide +kernel
theorem dX5_all_11 : decode cX5_all 11 = .ok (.invokevirtual 173, 3) := by decide +kernel
theorem dX5_all_14 : decode cX5_all 14 = .ok (.ireturn, 1) := by decide +kernel
set_option maxRecDepth 20000 in
theorem ggX5_played_X5_hasPart : GoodIn wsX5_played wsX5_hasPart := goodIn_r _ [6, 7, 8, 9, 10, 5, 11, 113, 114, 115, 116, 117, 118, 119, 120, 121, 122, 123, 124, 125, 126, 127, 128, 129, 130] (by decide +kernel) (by decide +kernel)
set_option maxRecDepth 20000 in
theorem gX5_played_X5_hasPart : GoodIn wsX5_played (wsV RX5 105 RX5 yX5_hasPart wsX5_hasPart) := goodIn_app (goodIn_of _ (by decide +kernel)) ggX5_played_X5_hasPart
set_option maxRecDepth 20000 in
theorem ggX5_played_X5_finding : GoodIn wsX5_played wsX5_finding := goodIn_r _ [15, 1, 16, 113, 114, 115, 116, 117, 118, 119, 120] (by decide +kernel) (by decide +kernel)
set_option maxRecDepth 20000 in
theorem gX5_played_X5_finding : GoodIn wsX5_played (wsV RX5 58 RX5 yX5_finding wsX5_finding) := goodIn_app (goodIn_of _ (by decide +kernel)) ggX5_played_X5_finding
set_option maxRecDepth 20000 in
theorem ggX5_played_X5_rehearsal : GoodIn wsX5_played wsX5_rehearsal := goodIn_r _ [20, 21, 7, 22, 23, 24, 25, 26, 27, 28, 29, 30, 31, 32, 33, 34, 35, 36, 37, 38, 39, 40, 113, 114, 115, 116, 117, 118, 119, 120, 121, 122, 123, 124, 125, 126, 127, 128, 129, 130] (by decide +kernel) (by decide +kernel)
set_option maxRecDepth 20000 in
theorem gX5_played_X5_rehearsal : GoodIn wsX5_played (wsV RX5 163 RX5 yX5_rehearsal wsX5_rehearsal) := goodIn_app (goodIn_of _ (by decide +kernel)) ggX5_played_X5_rehearsal
set_option maxRecDepth 20000 in
theorem ggX5_played_X1_daysTillPlayed : GoodIn wsX5_played wsX1_daysTillPlayed := goodIn_r _ [44, 45, 46, 47, 48, 25, 49, 28, 50, 51, 52, 53, 30, 40, 27, 54, 55, 56, 57, 58, 59, 60, 61, 62, 63, 64, 65, 38, 36, 37, 66, 67, 68, 69, 70, 71, 72, 73, 39, 74, 75, 76, 77, 78, 79, 80, 81, 82, 83, 84, 29, 85, 86, 87, 88, 89, 90, 91, 92, 31, 93, 94, 95, 96, 97, 98, 99, 100, 101, 102, 103, 104, 105, 106, 121, 122, 123, 124, 125, 126, 127, 128, 129, 130] (by decide +kernel) (by decide +kernel)
set_option maxRecDepth 20000 in
theorem gX5_played_X1_daysTillPlayed : GoodIn wsX5_played (wsV RX5 179 RX1 yX1_daysTillPlayed wsX1_daysTillPlayed) := goodIn_app (goodIn_of _ (by decide +kernel)) ggX5_played_X1_daysTillPlayed
set_option maxRecDepth 20000 in
theorem ggX5_played_X5_daysOrNone : GoodIn wsX5_played wsX5_daysOrNone := goodIn_r _ [110, 111, 112, 12, 13, 14, 5, 15, 1, 16, 113, 114, 115, 116, 117, 118, 119, 120] (by decide +kernel) (by decide +kernel)
set_option maxRecDepth 20000 in
theorem gX5_played_X5_daysOrNone : GoodIn wsX5_played (wsV RX5 173 RX5 yX5_daysOrNone wsX5_daysOrNone) := goodIn_app (goodIn_of _ (by decide +kernel)) ggX5_played_X5_daysOrNone
theorem dX5_played_0 : decode cX5_played 0 = .ok (.aload_n 0, 1) := by decide +kernel
theorem dX5_played_1 : decode cX5_played 1 = .ok (.iload_n 1, 1) := by decide +kernel
theorem dX5_played_2 : decode cX5_played 2 = .ok (.invokevirtual 105, 3) := by decide +kernel
theorem dX5_played_5 : decode cX5_played 5 = .ok (.ifCond .ne 10, 3) := by decide +kernel
theorem dX5_played_8 : decode cX5_played 8 = .ok (.aload_n 0, 1) := by decide +kernel
theorem dX5_played_9 : decode cX5_played 9 = .ok (.ldc 57, 2) := by decide +kernel
theorem dX5_played_11 : decode cX5_played 11 = .ok (.invokevirtual 58, 3) := by decide +kernel
theorem dX5_played_14 : decode cX5_played 14 = .ok (.ireturn, 1) := by decide +kernel
theorem dX5_played_15 : decode cX5_played 15 = .ok (.aload_n 0, 1) := by decide +kernel
theorem dX5_played_16 : decode cX5_played 16 = .ok (.aload_n 0, 1) := by decide +kernel
theorem dX5_played_17 : decode cX5_played 17 = .ok (.invokevirtual 163, 3) := by decide +kernel
theorem dX5_played_20 : decode cX5_played 20 = .ok (.iload_n 1, 1) := by decide +kernel
theorem dX5_played_21 : decode cX5_played 21 = .ok (.sipush 400, 3) := by decide +kernel
theorem dX5_played_24 : decode cX5_played 24 = .ok (.invokevirtual 179, 3) := by decide +kernel
theorem dX5_played_27 : decode cX5_played 27 = .ok (.invokevirtual 173, 3) := by decide +kernel
theorem dX5_played_30 : decode cX5_played 30 = .ok (.ireturn, 1) := by decide +kernel
set_option maxRecDepth 20000 in
theorem ggX5_later_X5_inside : GoodIn wsX5_later wsX5_inside := goodIn_r _ [10] (by decide +kernel) (by decide +kernel)
set_option maxRecDepth 20000 in
theorem gX5_later_X5_inside : GoodIn wsX5_later (va_wsS RX5 53 yX5_inside wsX5_inside) := goodIn_app (goodIn_of _ (by decide +kernel)) ggX5_later_X5_inside
set_option maxRecDepth 20000 in
theorem ggX5_later_X5_finding : GoodIn wsX5_later wsX5_finding := goodIn_r _ [14, 1, 15, 115, 116, 117, 118, 119, 120, 121, 122] (by decide +kernel) (by decide +kernel)
set_option maxRecDepth 20000 in
theorem gX5_later_X5_finding : GoodIn wsX5_later (wsV RX5 58 RX5 yX5_finding wsX5_finding) := goodIn_app (goodIn_of _ (by decide +kernel)) ggX5_later_X5_finding
set_option maxRecDepth 20000 in
theorem ggX5_later_X5_rehearsal : GoodIn wsX5_later wsX5_rehearsal := goodIn_r _ [19, 20, 3, 21, 22, 23, 24, 25, 26, 27, 28, 29, 30, 31, 32, 33, 34, 35, 36, 37, 38, 39, 115, 116, 117, 118, 119, 120, 121, 122, 105, 106, 107, 108, 109, 110, 111, 112, 113, 114] (by decide +kernel) (by decide +kernel)
set_option maxRecDepth 20000 in
theorem gX5_later_X5_rehearsal : GoodIn wsX5_later (wsV RX5 163 RX5 yX5_rehearsal wsX5_rehearsal) := goodIn_app (goodIn_of _ (by decide +kernel)) ggX5_later_X5_rehearsal
set_option maxRecDepth 20000 in
theorem ggX5_later_X1_passDays : GoodIn wsX5_later wsX1_passDays := goodIn_r _ [43, 44, 45, 46, 24, 47, 27, 48, 49, 50, 51, 29, 39, 26, 52, 53, 54, 55, 56, 57, 58, 59, 60, 61, 62, 63, 37, 35, 36, 64, 65, 66, 67, 68, 69, 70, 71, 38, 72, 73, 74, 75, 76, 77, 78, 79, 80, 81, 82, 28, 83, 84, 85, 86, 87, 88, 89, 90, 30, 91, 92, 93, 94, 95, 96, 97, 98, 99, 100, 101, 102, 103, 104, 105, 106, 107, 108, 109, 110, 111, 112, 113, 114] (by decide +kernel) (by decide +kernel)
set_option maxRecDepth 20000 in
theorem gX5_later_X1_passDays : GoodIn wsX5_later (wsV RX5 159 RX1 yX1_passDays wsX1_passDays) := goodIn_app (goodIn_of _ (by decide +kernel)) ggX5_later_X1_passDays
theorem dX5_later_0 : decode cX5_later 0 = .ok (.iload_n 1, 1) := by decide +kernel
theorem dX5_later_1 : decode cX5_later 1 = .ok (.iconst 1, 1) := by decide +kernel
theorem dX5_later_2 : decode cX5_later 2 = .ok (.bipush 60, 2) := by decide +kernel
theorem dX5_later_4 : decode cX5_later 4 = .ok (.invokestatic 53, 3) := by decide +kernel
theorem dX5_later_7 : decode cX5_later 7 = .ok (.ifCond .ne 10, 3) := by decide +kernel
theorem dX5_later_10 : decode cX5_later 10 = .ok (.aload_n 0, 1) := by decide +kernel
theorem dX5_later_11 : decode cX5_later 11 = .ok (.ldc 57, 2) := by decide +kernel
theorem dX5_later_13 : decode cX5_later 13 = .ok (.invokevirtual 58, 3) := by decide +kernel
theorem dX5_later_16 : decode cX5_later 16 = .ok (.ireturn, 1) := by decide +kernel
theorem dX5_later_17 : decode cX5_later 17 = .ok (.aload_n 0, 1) := by decide +kernel
theorem dX5_later_18 : decode cX5_later 18 = .ok (.invokevirtual 163, 3) := by decide +kernel
theorem dX5_later_21 : decode cX5_later 21 = .ok (.astore_n 2, 1) := by decide +kernel
theorem dX5_later_22 : decode cX5_later 22 = .ok (.aload_n 2, 1) := by decide +kernel
theorem dX5_later_23 : decode cX5_later 23 = .ok (.sipush 200, 3) := by decide +kernel
theorem dX5_later_26 : decode cX5_later 26 = .ok (.invokevirtual 159, 3) := by decide +kernel
theorem dX5_later_29 : decode cX5_later 29 = .ok (.aload_n 2, 1) := by decide +kernel
theorem dX5_later_30 : decode cX5_later 30 = .ok (.getfield 80, 3) := by decide +kernel
theorem dX5_later_33 : decode cX5_later 33 = .ok (.istore_n 3, 1) := by decide +kernel
theorem dX5_later_34 : decode cX5_later 34 = .ok (.iconst (-1), 1) := by decide +kernel
theorem dX5_later_35 : decode cX5_later 35 = .ok (.istore 4, 2) := by decide +kernel
theorem dX5_later_37 : decode cX5_later 37 = .ok (.iconst 0, 1) := by decide +kernel
theorem dX5_later_38 : decode cX5_later 38 = .ok (.istore 5, 2) := by decide +kernel
theorem dX5_later_40 : decode cX5_later 40 = .ok (.iload 5, 2) := by decide +kernel
theorem dX5_later_42 : decode cX5_later 42 = .ok (.aload_n 0, 1) := by decide +kernel
theorem dX5_later_43 : decode cX5_later 43 = .ok (.getfield 10, 3) := by decide +kernel
theorem dX5_later_46 : decode cX5_later 46 = .ok (.getfield 167, 3) := by decide +kernel
theorem dX5_later_49 : decode cX5_later 49 = .ok (.if_icmp .ge 51, 3) := by decide +kernel
theorem dX5_later_52 : decode cX5_later 52 = .ok (.aload_n 0, 1) := by decide +kernel
theorem dX5_later_53 : decode cX5_later 53 = .ok (.invokevirtual 163, 3) := by decide +kernel
theorem dX5_later_56 : decode cX5_later 56 = .ok (.astore 6, 2) := by decide +kernel
theorem dX5_later_58 : decode cX5_later 58 = .ok (.aload 6, 2) := by decide +kernel
theorem dX5_later_60 : decode cX5_later 60 = .ok (.getfield 120, 3) := by decide +kernel
theorem dX5_later_63 : decode cX5_later 63 = .ok (.iload 5, 2) := by decide +kernel
theorem dX5_later_65 : decode cX5_later 65 = .ok (.iload_n 1, 1) := by decide +kernel
theorem dX5_later_66 : decode cX5_later 66 = .ok (.iastore, 1) := by decide +kernel
theorem dX5_later_67 : decode cX5_later 67 = .ok (.aload 6, 2) := by decide +kernel
theorem dX5_later_69 : decode cX5_later 69 = .ok (.sipush 200, 3) := by decide +kernel
theorem dX5_later_72 : decode cX5_later 72 = .ok (.invokevirtual 159, 3) := by decide +kernel
theorem dX5_later_75 : decode cX5_later 75 = .ok (.aload 6, 2) := by decide +kernel
theorem dX5_later_77 : decode cX5_later 77 = .ok (.getfield 80, 3) := by decide +kernel
theorem dX5_later_80 : decode cX5_later 80 = .ok (.iload_n 3, 1) := by decide +kernel
theorem dX5_later_81 : decode cX5_later 81 = .ok (.if_icmp .ge 13, 3) := by decide +kernel
theorem dX5_later_84 : decode cX5_later 84 = .ok (.aload 6, 2) := by decide +kernel
theorem dX5_later_86 : decode cX5_later 86 = .ok (.getfield 80, 3) := by decide +kernel
theorem dX5_later_89 : decode cX5_later 89 = .ok (.istore_n 3, 1) := by decide +kernel
theorem dX5_later_90 : decode cX5_later 90 = .ok (.iload 5, 2) := by decide +kernel
theorem dX5_later_92 : decode cX5_later 92 = .ok (.istore 4, 2) := by decide +kernel
theorem dX5_later_94 : decode cX5_later 94 = .ok (.iinc 5 1, 3) := by decide +kernel
theorem dX5_later_97 : decode cX5_later 97 = .ok (.goto (-57), 3) := by decide +kernel
theorem dX5_later_100 : decode cX5_later 100 = .ok (.iload 4, 2) := by decide +kernel
theorem dX5_later_102 : decode cX5_later 102 = .ok (.ifCond .ge 12, 3) := by decide +kernel
theorem dX5_later_105 : decode cX5_later 105 = .ok (.aload_n 0, 1) := by decide +kernel
theorem dX5_later_106 : decode cX5_later 106 = .ok (.ldc 182, 2) := by decide +kernel
theorem dX5_later_108 : decode cX5_later 108 = .ok (.invokevirtual 58, 3) := by decide +kernel
theorem dX5_later_111 : decode cX5_later 111 = .ok (.goto 5, 3) := by decide +kernel
theorem dX5_later_114 : decode cX5_later 114 = .ok (.iload 4, 2) := by decide +kernel
theorem dX5_later_116 : decode cX5_later 116 = .ok (.ireturn, 1) := by decide +kernel
set_option maxRecDepth 20000 in
theorem ggX5_kind_X5_hasPart : GoodIn wsX5_kind wsX5_hasPart := goodIn_r _ [9, 10, 11, 12, 13, 8, 14, 120, 121, 122, 123, 124, 125, 126, 127, 110, 111, 112, 113, 114, 115, 116, 117, 118, 119] (by decide +kernel) (by decide +kernel)
set_option maxRecDepth 20000 in
theorem gX5_kind_X5_hasPart : GoodIn wsX5_kind (wsV RX5 105 RX5 yX5_hasPart wsX5_hasPart) := goodIn_app (goodIn_of _ (by decide +kernel)) ggX5_kind_X5_hasPart
set_option maxRecDepth 20000 in
theorem ggX5_kind_X5_finding : GoodIn wsX5_kind wsX5_finding := goodIn_r _ [18, 1, 19, 120, 121, 122, 123, 124, 125, 126, 127] (by decide +kernel) (by decide +kernel)
set_option maxRecDepth 20000 in
theorem gX5_kind_X5_finding : GoodIn wsX5_kind (wsV RX5 58 RX5 yX5_finding wsX5_finding) := goodIn_app (goodIn_of _ (by decide +kernel)) ggX5_kind_X5_finding
set_option maxRecDepth 20000 in
theorem ggX5_kind_X5_rehearsal : GoodIn wsX5_kind wsX5_rehearsal := goodIn_r _ [23, 24, 10, 25, 26, 27, 28, 29, 30, 31, 32, 33, 34, 35, 36, 37, 38, 39, 40, 41, 42, 43, 120, 121, 122, 123, 124, 125, 126, 127, 110, 111, 112, 113, 114, 115, 116, 117, 118, 119] (by decide +kernel) (by decide +kernel)
set_option maxRecDepth 20000 in
theorem gX5_kind_X5_rehearsal : GoodIn wsX5_kind (wsV RX5 163 RX5 yX5_rehearsal wsX5_rehearsal) := goodIn_app (goodIn_of _ (by decide +kernel)) ggX5_kind_X5_rehearsal
set_option maxRecDepth 20000 in
theorem ggX5_kind_X1_daysTillDone : GoodIn wsX5_kind wsX1_daysTillDone := goodIn_r _ [47, 48, 49, 50, 51, 28, 52, 41, 39, 40, 53, 54, 55, 56, 57, 58, 59, 60, 31, 61, 62, 63, 64, 33, 43, 30, 65, 66, 67, 68, 69, 70, 71, 72, 73, 74, 75, 76, 42, 77, 78, 79, 80, 81, 82, 83, 84, 85, 86, 87, 32, 88, 89, 90, 91, 92, 93, 94, 95, 34, 96, 97, 98, 99, 100, 101, 102, 103, 104, 105, 106, 107, 108, 109, 110, 111, 112, 113, 114, 115, 116, 117, 118, 119] (by decide +kernel) (by decide +kernel)
set_option maxRecDepth 20000 in
theorem gX5_kind_X1_daysTillDone : GoodIn wsX5_kind (wsV RX5 170 RX1 yX1_daysTillDone wsX1_daysTillDone) := goodIn_app (goodIn_of _ (by decide +kernel)) ggX5_kind_X1_daysTillDone
theorem dX5_kind_0 : decode cX5_kind 0 = .ok (.aload_n 0, 1) := by decide +kernel
theorem dX5_kind_1 : decode cX5_kind 1 = .ok (.iload_n 1, 1) := by decide +kernel
theorem dX5_kind_2 : decode cX5_kind 2 = .ok (.invokevirtual 105, 3) := by decide +kernel
theorem dX5_kind_5 : decode cX5_kind 5 = .ok (.ifCond .ne 10, 3) := by decide +kernel
theorem dX5_kind_8 : decode cX5_kind 8 = .ok (.aload_n 0, 1) := by decide +kernel
theorem dX5_kind_9 : decode cX5_kind 9 = .ok (.ldc 57, 2) := by decide +kernel
theorem dX5_kind_11 : decode cX5_kind 11 = .ok (.invokevirtual 58, 3) := by decide +kernel
theorem dX5_kind_14 : decode cX5_kind 14 = .ok (.ireturn, 1) := by decide +kernel
theorem dX5_kind_15 : decode cX5_kind 15 = .ok (.ldc 183, 2) := by decide +kernel
theorem dX5_kind_17 : decode cX5_kind 17 = .ok (.istore_n 2, 1) := by decide +kernel
theorem dX5_kind_18 : decode cX5_kind 18 = .ok (.iconst (-1), 1) := by decide +kernel
theorem dX5_kind_19 : decode cX5_kind 19 = .ok (.istore_n 3, 1) := by decide +kernel
theorem dX5_kind_20 : decode cX5_kind 20 = .ok (.iconst 0, 1) := by decide +kernel
theorem dX5_kind_21 : decode cX5_kind 21 = .ok (.istore 4, 2) := by decide +kernel
theorem dX5_kind_23 : decode cX5_kind 23 = .ok (.iload 4, 2) := by decide +kernel
theorem dX5_kind_25 : decode cX5_kind 25 = .ok (.bipush 6, 2) := by decide +kernel
theorem dX5_kind_27 : decode cX5_kind 27 = .ok (.if_icmp .ge 47, 3) := by decide +kernel
theorem dX5_kind_30 : decode cX5_kind 30 = .ok (.aload_n 0, 1) := by decide +kernel
theorem dX5_kind_31 : decode cX5_kind 31 = .ok (.invokevirtual 163, 3) := by decide +kernel
theorem dX5_kind_34 : decode cX5_kind 34 = .ok (.astore 5, 2) := by decide +kernel
theorem dX5_kind_36 : decode cX5_kind 36 = .ok (.aload 5, 2) := by decide +kernel
theorem dX5_kind_38 : decode cX5_kind 38 = .ok (.getfield 108, 3) := by decide +kernel
theorem dX5_kind_41 : decode cX5_kind 41 = .ok (.iload_n 1, 1) := by decide +kernel
theorem dX5_kind_42 : decode cX5_kind 42 = .ok (.iload 4, 2) := by decide +kernel
theorem dX5_kind_44 : decode cX5_kind 44 = .ok (.iastore, 1) := by decide +kernel
theorem dX5_kind_45 : decode cX5_kind 45 = .ok (.aload 5, 2) := by decide +kernel
theorem dX5_kind_47 : decode cX5_kind 47 = .ok (.iload_n 1, 1) := by decide +kernel
theorem dX5_kind_48 : decode cX5_kind 48 = .ok (.sipush 400, 3) := by decide +kernel
theorem dX5_kind_51 : decode cX5_kind 51 = .ok (.invokevirtual 170, 3) := by decide +kernel
theorem dX5_kind_54 : decode cX5_kind 54 = .ok (.istore 6, 2) := by decide +kernel
theorem dX5_kind_56 : decode cX5_kind 56 = .ok (.iload 6, 2) := by decide +kernel
theorem dX5_kind_58 : decode cX5_kind 58 = .ok (.iload_n 2, 1) := by decide +kernel
theorem dX5_kind_59 : decode cX5_kind 59 = .ok (.if_icmp .ge 9, 3) := by decide +kernel
theorem dX5_kind_62 : decode cX5_kind 62 = .ok (.iload 6, 2) := by decide +kernel
theorem dX5_kind_64 : decode cX5_kind 64 = .ok (.istore_n 2, 1) := by decide +kernel
theorem dX5_kind_65 : decode cX5_kind 65 = .ok (.iload 4, 2) := by decide +kernel
theorem dX5_kind_67 : decode cX5_kind 67 = .ok (.istore_n 3, 1) := by decide +kernel
theorem dX5_kind_68 : decode cX5_kind 68 = .ok (.iinc 4 1, 3) := by decide +kernel
theorem dX5_kind_71 : decode cX5_kind 71 = .ok (.goto (-48), 3) := by decide +kernel
theorem dX5_kind_74 : decode cX5_kind 74 = .ok (.iload_n 3, 1) := by decide +kernel
theorem dX5_kind_75 : decode cX5_kind 75 = .ok (.ifCond .ge 12, 3) := by decide +kernel
theorem dX5_kind_78 : decode cX5_kind 78 = .ok (.aload_n 0, 1) := by decide +kernel
theorem dX5_kind_79 : decode cX5_kind 79 = .ok (.ldc 182, 2) := by decide +kernel
theorem dX5_kind_81 : decode cX5_kind 81 = .ok (.invokevirtual 58, 3) := by decide +kernel
theorem dX5_kind_84 : decode cX5_kind 84 = .ok (.goto 4, 3) := by decide +kernel
theorem dX5_kind_87 : decode cX5_kind 87 = .ok (.iload_n 3, 1) := by decide +kernel
theorem dX5_kind_88 : decode cX5_kind 88 = .ok (.ireturn, 1) := by decide +kernel
set_option maxRecDepth 20000 in
theorem ggX5_bears_X5_inside : GoodIn wsX5_bears wsX5_inside := goodIn_r _ [8] (by decide +kernel) (by decide +kernel)
set_option maxRecDepth 20000 in
theorem gX5_bears_X5_inside : GoodIn wsX5_bears (va_wsS RX5 53 yX5_inside wsX5_inside) := goodIn_app (goodIn_of _ (by decide +kernel)) ggX5_bears_X5_inside
set_option maxRecDepth 20000 in
theorem ggX5_bears_X5_finding : GoodIn wsX5_bears wsX5_finding := goodIn_r _ [12, 1, 13, 115, 116, 117, 118, 119, 120, 121, 122] (by decide +kernel) (by decide +kernel)
set_option maxRecDepth 20000 in
theorem gX5_bears_X5_finding : GoodIn wsX5_bears (wsV RX5 58 RX5 yX5_finding wsX5_finding) := goodIn_app (goodIn_of _ (by decide +kernel)) ggX5_bears_X5_finding
set_option maxRecDepth 20000 in
theorem ggX5_bears_X5_rehearsal : GoodIn wsX5_bears wsX5_rehearsal := goodIn_r _ [17, 18, 19, 20, 21, 22, 23, 24, 25, 26, 27, 28, 29, 30, 31, 32, 33, 34, 35, 36, 37, 38, 115, 116, 117, 118, 119, 120, 121, 122, 105, 106, 107, 108, 109, 110, 111, 112, 113, 114] (by decide +kernel) (by decide +kernel)
set_option maxRecDepth 20000 in
theorem gX5_bears_X5_rehearsal : GoodIn wsX5_bears (wsV RX5 163 RX5 yX5_rehearsal wsX5_rehearsal) := goodIn_app (goodIn_of _ (by decide +kernel)) ggX5_bears_X5_rehearsal
set_option maxRecDepth 20000 in
theorem ggX5_bears_X1_daysTillAllDone : GoodIn wsX5_bears wsX1_daysTillAllDone := goodIn_r _ [42, 43, 44, 45, 46, 23, 47, 28, 48, 49, 50, 51, 36, 34, 35, 52, 53, 54, 55, 56, 57, 58, 59, 26, 60, 61, 62, 63, 38, 25, 64, 65, 66, 67, 68, 69, 70, 71, 37, 72, 73, 74, 75, 76, 77, 78, 79, 80, 81, 82, 27, 83, 84, 85, 86, 87, 88, 89, 90, 29, 91, 92, 93, 94, 95, 96, 97, 98, 99, 100, 101, 102, 103, 104, 105, 106, 107, 108, 109, 110, 111, 112, 113, 114] (by decide +kernel) (by decide +kernel)
set_option maxRecDepth 20000 in
theorem gX5_bears_X1_daysTillAllDone : GoodIn wsX5_bears (wsV RX5 176 RX1 yX1_daysTillAllDone wsX1_daysTillAllDone) := goodIn_app (goodIn_of _ (by decide +kernel)) ggX5_bears_X1_daysTillAllDone
theorem dX5_bears_0 : decode cX5_bears 0 = .ok (.iload_n 1, 1) := by decide +kernel
theorem dX5_bears_1 : decode cX5_bears 1 = .ok (.iconst 1, 1) := by decide +kernel
theorem dX5_bears_2 : decode cX5_bears 2 = .ok (.sipush 200, 3) := by decide +kernel
theorem dX5_bears_5 : decode cX5_bears 5 = .ok (.invokestatic 53, 3) := by decide +kernel
theorem dX5_bears_8 : decode cX5_bears 8 = .ok (.ifCond .ne 10, 3) := by decide +kernel
theorem dX5_bears_11 : decode cX5_bears 11 = .ok (.aload_n 0, 1) := by decide +kernel
theorem dX5_bears_12 : decode cX5_bears 12 = .ok (.ldc 57, 2) := by decide +kernel
theorem dX5_bears_14 : decode cX5_bears 14 = .ok (.invokevirtual 58, 3) := by decide +kernel
theorem dX5_bears_17 : decode cX5_bears 17 = .ok (.ireturn, 1) := by decide +kernel
theorem dX5_bears_18 : decode cX5_bears 18 = .ok (.bipush 99, 2) := by decide +kernel
theorem dX5_bears_20 : decode cX5_bears 20 = .ok (.istore_n 2, 1) := by decide +kernel
theorem dX5_bears_21 : decode cX5_bears 21 = .ok (.iload_n 2, 1) := by decide +kernel
theorem dX5_bears_22 : decode cX5_bears 22 = .ok (.ifCond .lt 31, 3) := by decide +kernel
theorem dX5_bears_25 : decode cX5_bears 25 = .ok (.aload_n 0, 1) := by decide +kernel
theorem dX5_bears_26 : decode cX5_bears 26 = .ok (.invokevirtual 163, 3) := by decide +kernel
theorem dX5_bears_29 : decode cX5_bears 29 = .ok (.astore_n 3, 1) := by decide +kernel
theorem dX5_bears_30 : decode cX5_bears 30 = .ok (.aload_n 3, 1) := by decide +kernel
theorem dX5_bears_31 : decode cX5_bears 31 = .ok (.iload_n 2, 1) := by decide +kernel
theorem dX5_bears_32 : decode cX5_bears 32 = .ok (.putfield 62, 3) := by decide +kernel
theorem dX5_bears_35 : decode cX5_bears 35 = .ok (.aload_n 3, 1) := by decide +kernel
theorem dX5_bears_36 : decode cX5_bears 36 = .ok (.iload_n 1, 1) := by decide +kernel
theorem dX5_bears_37 : decode cX5_bears 37 = .ok (.invokevirtual 176, 3) := by decide +kernel
theorem dX5_bears_40 : decode cX5_bears 40 = .ok (.ldc 183, 2) := by decide +kernel
theorem dX5_bears_42 : decode cX5_bears 42 = .ok (.if_icmp .eq 5, 3) := by decide +kernel
theorem dX5_bears_45 : decode cX5_bears 45 = .ok (.iload_n 2, 1) := by decide +kernel
theorem dX5_bears_46 : decode cX5_bears 46 = .ok (.ireturn, 1) := by decide +kernel
theorem dX5_bears_47 : decode cX5_bears 47 = .ok (.iinc 2 (-1), 3) := by decide +kernel
theorem dX5_bears_50 : decode cX5_bears 50 = .ok (.goto (-29), 3) := by decide +kernel
theorem dX5_bears_53 : decode cX5_bears 53 = .ok (.aload_n 0, 1) := by decide +kernel
theorem dX5_bears_54 : decode cX5_bears 54 = .ok (.ldc 182, 2) := by decide +kernel
theorem dX5_bears_56 : decode cX5_bears 56 = .ok (.invokevirtual 58, 3) := by decide +kernel
theorem dX5_bears_59 : decode cX5_bears 59 = .ok (.ireturn, 1) := by decide +kernel
set_option maxRecDepth 20000 in
theorem ggX5_holiday_X5_rehearsal : GoodIn wsX5_holiday wsX5_rehearsal := goodIn_r _ [8, 9, 1, 10, 11, 12, 13, 14, 15, 16, 17, 18, 19, 20, 21, 22, 23, 24, 25, 26, 27, 28, 101, 102, 103, 104, 105, 106, 107, 108, 109, 110, 111, 112, 113, 114, 115, 116, 117, 118] (by decide +kernel) (by decide +kernel)
set_option maxRecDepth 20000 in
theorem gX5_holiday_X5_rehearsal : GoodIn wsX5_holiday (wsV RX5 163 RX5 yX5_rehearsal wsX5_rehearsal) := goodIn_app (goodIn_of _ (by decide +kernel)) ggX5_holiday_X5_rehearsal
set_option maxRecDepth 20000 in
theorem ggX5_holiday_X1_daysTillAllDone : GoodIn wsX5_holiday wsX1_daysTillAllDone := goodIn_r _ [32, 33, 34, 35, 36, 13, 37, 18, 38, 39, 40, 41, 26, 24, 25, 42, 43, 44, 45, 46, 47, 48, 49, 16, 50, 51, 52, 53, 28, 15, 54, 55, 56, 57, 58, 59, 60, 61, 27, 62, 63, 64, 65, 66, 67, 68, 69, 70, 71, 72, 17, 73, 74, 75, 76, 77, 78, 79, 80, 19, 81, 82, 83, 84, 85, 86, 87, 88, 89, 90, 91, 92, 93, 94, 109, 110, 111, 112, 113, 114, 115, 116, 117, 118] (by decide +kernel) (by decide +kernel)
set_option maxRecDepth 20000 in
theorem gX5_holiday_X1_daysTillAllDone : GoodIn wsX5_holiday (wsV RX5 176 RX1 yX1_daysTillAllDone wsX1_daysTillAllDone) := goodIn_app (goodIn_of _ (by decide +kernel)) ggX5_holiday_X1_daysTillAllDone
set_option maxRecDepth 20000 in
theorem ggX5_holiday_X5_finding : GoodIn wsX5_holiday wsX5_finding := goodIn_r _ [98, 99, 100, 101, 102, 103, 104, 105, 106, 107, 108] (by decide +kernel) (by decide +kernel)
set_option maxRecDepth 20000 in
theorem gX5_holiday_X5_finding : GoodIn wsX5_holiday (wsV RX5 58 RX5 yX5_finding wsX5_finding) := goodIn_app (goodIn_of _ (by decide +kernel)) ggX5_holiday_X5_finding
theorem dX5_holiday_0 : decode cX5_holiday 0 = .ok (.aload_n 0, 1) := by decide +kernel
theorem dX5_holiday_1 : decode cX5_holiday 1 = .ok (.invokevirtual 163, 3) := by decide +kernel
theorem dX5_holiday_4 : decode cX5_holiday 4 = .ok (.sipush 400, 3) := by decide +kernel
theorem dX5_holiday_7 : decode cX5_holiday 7 = .ok (.invokevirtual 176, 3) := by decide +kernel
theorem dX5_holiday_10 : decode cX5_holiday 10 = .ok (.istore_n 1, 1) := by decide +kernel
theorem dX5_holiday_11 : decode cX5_holiday 11 = .ok (.iconst (-1), 1) := by decide +kernel
theorem dX5_holiday_12 : decode cX5_holiday 12 = .ok (.istore_n 2, 1) := by decide +kernel
theorem dX5_holiday_13 : decode cX5_holiday 13 = .ok (.iconst 0, 1) := by decide +kernel
theorem dX5_holiday_14 : decode cX5_holiday 14 = .ok (.istore_n 3, 1) := by decide +kernel
theorem dX5_holiday_15 : decode cX5_holiday 15 = .ok (.iload_n 3, 1) := by decide +kernel
theorem dX5_holiday_16 : decode cX5_holiday 16 = .ok (.bipush 7, 2) := by decide +kernel
theorem dX5_holiday_18 : decode cX5_holiday 18 = .ok (.if_icmp .ge 56, 3) := by decide +kernel
theorem dX5_holiday_21 : decode cX5_holiday 21 = .ok (.aload_n 0, 1) := by decide +kernel
theorem dX5_holiday_22 : decode cX5_holiday 22 = .ok (.getfield 10, 3) := by decide +kernel
theorem dX5_holiday_25 : decode cX5_holiday 25 = .ok (.getfield 66, 3) := by decide +kernel
theorem dX5_holiday_28 : decode cX5_holiday 28 = .ok (.iload_n 3, 1) := by decide +kernel
theorem dX5_holiday_29 : decode cX5_holiday 29 = .ok (.iaload, 1) := by decide +kernel
theorem dX5_holiday_30 : decode cX5_holiday 30 = .ok (.ifCond .ne 38, 3) := by decide +kernel
theorem dX5_holiday_33 : decode cX5_holiday 33 = .ok (.aload_n 0, 1) := by decide +kernel
theorem dX5_holiday_34 : decode cX5_holiday 34 = .ok (.invokevirtual 163, 3) := by decide +kernel
theorem dX5_holiday_37 : decode cX5_holiday 37 = .ok (.astore 4, 2) := by decide +kernel
theorem dX5_holiday_39 : decode cX5_holiday 39 = .ok (.aload 4, 2) := by decide +kernel
theorem dX5_holiday_41 : decode cX5_holiday 41 = .ok (.getfield 66, 3) := by decide +kernel
theorem dX5_holiday_44 : decode cX5_holiday 44 = .ok (.iload_n 3, 1) := by decide +kernel
theorem dX5_holiday_45 : decode cX5_holiday 45 = .ok (.iconst 1, 1) := by decide +kernel
theorem dX5_holiday_46 : decode cX5_holiday 46 = .ok (.iastore, 1) := by decide +kernel
theorem dX5_holiday_47 : decode cX5_holiday 47 = .ok (.aload 4, 2) := by decide +kernel
theorem dX5_holiday_49 : decode cX5_holiday 49 = .ok (.sipush 400, 3) := by decide +kernel
theorem dX5_holiday_52 : decode cX5_holiday 52 = .ok (.invokevirtual 176, 3) := by decide +kernel
theorem dX5_holiday_55 : decode cX5_holiday 55 = .ok (.istore 5, 2) := by decide +kernel
theorem dX5_holiday_57 : decode cX5_holiday 57 = .ok (.iload 5, 2) := by decide +kernel
theorem dX5_holiday_59 : decode cX5_holiday 59 = .ok (.iload_n 1, 1) := by decide +kernel
theorem dX5_holiday_60 : decode cX5_holiday 60 = .ok (.if_icmp .ge 8, 3) := by decide +kernel
theorem dX5_holiday_63 : decode cX5_holiday 63 = .ok (.iload 5, 2) := by decide +kernel
theorem dX5_holiday_65 : decode cX5_holiday 65 = .ok (.istore_n 1, 1) := by decide +kernel
theorem dX5_holiday_66 : decode cX5_holiday 66 = .ok (.iload_n 3, 1) := by decide +kernel
theorem dX5_holiday_67 : decode cX5_holiday 67 = .ok (.istore_n 2, 1) := by decide +kernel
theorem dX5_holiday_68 : decode cX5_holiday 68 = .ok (.iinc 3 1, 3) := by decide +kernel
theorem dX5_holiday_71 : decode cX5_holiday 71 = .ok (.goto (-56), 3) := by decide +kernel
theorem dX5_holiday_74 : decode cX5_holiday 74 = .ok (.iload_n 2, 1) := by decide +kernel
theorem dX5_holiday_75 : decode cX5_holiday 75 = .ok (.ifCond .ge 12, 3) := by decide +kernel
theorem dX5_holiday_78 : decode cX5_holiday 78 = .ok (.aload_n 0, 1) := by decide +kernel
theorem dX5_holiday_79 : decode cX5_holiday 79 = .ok (.ldc 182, 2) := by decide +kernel
theorem dX5_holiday_81 : decode cX5_holiday 81 = .ok (.invokevirtual 58, 3) := by decide +kernel
theorem dX5_holiday_84 : decode cX5_holiday 84 = .ok (.goto 4, 3) := by decide +kernel
theorem dX5_holiday_87 : decode cX5_holiday 87 = .ok (.iload_n 2, 1) := by decide +kernel
theorem dX5_holiday_88 : decode cX5_holiday 88 = .ok (.ireturn, 1) := by decide +kernel
set_option maxRecDepth 20000 in
theorem ggX5_last_X5_rehearsal : GoodIn wsX5_last wsX5_rehearsal := goodIn_r _ [8, 9, 1, 10, 11, 12, 13, 14, 15, 16, 17, 18, 19, 20, 21, 22, 23, 24, 25, 26, 27, 28, 101, 102, 103, 104, 105, 106, 107, 108, 109, 110, 111, 112, 113, 114, 115, 116, 117, 118] (by decide +kernel) (by decide +kernel)
set_option maxRecDepth 20000 in
theorem gX5_last_X5_rehearsal : GoodIn wsX5_last (wsV RX5 163 RX5 yX5_rehearsal wsX5_rehearsal) := goodIn_app (goodIn_of _ (by decide +kernel)) ggX5_last_X5_rehearsal
set_option maxRecDepth 20000 in
theorem ggX5_last_X1_daysTillDone : GoodIn wsX5_last wsX1_daysTillDone := goodIn_r _ [32, 33, 34, 35, 36, 13, 37, 26, 24, 25, 38, 39, 40, 41, 42, 43, 44, 45, 16, 46, 47, 48, 49, 18, 28, 15, 50, 51, 52, 53, 54, 55, 56, 57, 58, 59, 60, 61, 27, 62, 63, 64, 65, 66, 67, 68, 69, 70, 71, 72, 17, 73, 74, 75, 76, 77, 78, 79, 80, 19, 81, 82, 83, 84, 85, 86, 87, 88, 89, 90, 91, 92, 93, 94, 109, 110, 111, 112, 113, 114, 115, 116, 117, 118] (by decide +kernel) (by decide +kernel)
set_option maxRecDepth 20000 in
theorem gX5_last_X1_daysTillDone : GoodIn wsX5_last (wsV RX5 170 RX1 yX1_daysTillDone wsX1_daysTillDone) := goodIn_app (goodIn_of _ (by decide +kernel)) ggX5_last_X1_daysTillDone
set_option maxRecDepth 20000 in
theorem ggX5_last_X5_finding : GoodIn wsX5_last wsX5_finding := goodIn_r _ [98, 99, 100, 101, 102, 103, 104, 105, 106, 107, 108] (by decide +kernel) (by decide +kernel)
set_option maxRecDepth 20000 in
theorem gX5_last_X5_finding : GoodIn wsX5_last (wsV RX5 58 RX5 yX5_finding wsX5_finding) := goodIn_app (goodIn_of _ (by decide +kernel)) ggX5_last_X5_finding
theorem dX5_last_0 : decode cX5_last 0 = .ok (.iconst (-1), 1) := by decide +kernel
theorem dX5_last_1 : decode cX5_last 1 = .ok (.istore_n 1, 1) := by decide +kernel
theorem dX5_last_2 : decode cX5_last 2 = .ok (.iconst (-1), 1) := by decide +kernel
theorem dX5_last_3 : decode cX5_last 3 = .ok (.istore_n 2, 1) := by decide +kernel
theorem dX5_last_4 : decode cX5_last 4 = .ok (.iconst 0, 1) := by decide +kernel
theorem dX5_last_5 : decode cX5_last 5 = .ok (.istore_n 3, 1) := by decide +kernel
theorem dX5_last_6 : decode cX5_last 6 = .ok (.iload_n 3, 1) := by decide +kernel
theorem dX5_last_7 : decode cX5_last 7 = .ok (.aload_n 0, 1) := by decide +kernel
theorem dX5_last_8 : decode cX5_last 8 = .ok (.getfield 10, 3) := by decide +kernel
theorem dX5_last_11 : decode cX5_last 11 = .ok (.getfield 167, 3) := by decide +kernel
theorem dX5_last_14 : decode cX5_last 14 = .ok (.if_icmp .ge 33, 3) := by decide +kernel
theorem dX5_last_17 : decode cX5_last 17 = .ok (.aload_n 0, 1) := by decide +kernel
theorem dX5_last_18 : decode cX5_last 18 = .ok (.invokevirtual 163, 3) := by decide +kernel
theorem dX5_last_21 : decode cX5_last 21 = .ok (.iload_n 3, 1) := by decide +kernel
theorem dX5_last_22 : decode cX5_last 22 = .ok (.sipush 400, 3) := by decide +kernel
theorem dX5_last_25 : decode cX5_last 25 = .ok (.invokevirtual 170, 3) := by decide +kernel
theorem dX5_last_28 : decode cX5_last 28 = .ok (.istore 4, 2) := by decide +kernel
theorem dX5_last_30 : decode cX5_last 30 = .ok (.iload 4, 2) := by decide +kernel
theorem dX5_last_32 : decode cX5_last 32 = .ok (.iload_n 1, 1) := by decide +kernel
theorem dX5_last_33 : decode cX5_last 33 = .ok (.if_icmp .le 8, 3) := by decide +kernel
theorem dX5_last_36 : decode cX5_last 36 = .ok (.iload 4, 2) := by decide +kernel
theorem dX5_last_38 : decode cX5_last 38 = .ok (.istore_n 1, 1) := by decide +kernel
theorem dX5_last_39 : decode cX5_last 39 = .ok (.iload_n 3, 1) := by decide +kernel
theorem dX5_last_40 : decode cX5_last 40 = .ok (.istore_n 2, 1) := by decide +kernel
theorem dX5_last_41 : decode cX5_last 41 = .ok (.iinc 3 1, 3) := by decide +kernel
theorem dX5_last_44 : decode cX5_last 44 = .ok (.goto (-38), 3) := by decide +kernel
theorem dX5_last_47 : decode cX5_last 47 = .ok (.iload_n 2, 1) := by decide +kernel
theorem dX5_last_48 : decode cX5_last 48 = .ok (.ifCond .ge 12, 3) := by decide +kernel
theorem dX5_last_51 : decode cX5_last 51 = .ok (.aload_n 0, 1) := by decide +kernel
theorem dX5_last_52 : decode cX5_last 52 = .ok (.ldc 182, 2) := by decide +kernel
theorem dX5_last_54 : decode cX5_last 54 = .ok (.invokevirtual 58, 3) := by decide +kernel
theorem dX5_last_57 : decode cX5_last 57 = .ok (.goto 4, 3) := by decide +kernel
theorem dX5_last_60 : decode cX5_last 60 = .ok (.iload_n 2, 1) := by decide +kernel
theorem dX5_last_61 : decode cX5_last 61 = .ok (.ireturn, 1) := by decide +kernel
set_option maxRecDepth 20000 in
theorem ggX5_longest_X5_hasPart : GoodIn wsX5_longest wsX5_hasPart := goodIn_r _ [13, 2, 14, 15, 16, 12, 17, 113, 114, 115, 116, 117, 118, 119, 120, 121, 122, 123, 124, 125, 126, 127, 128, 129, 130] (by decide +kernel) (by decide +kernel)
set_option maxRecDepth 20000 in
theorem gX5_longest_X5_hasPart : GoodIn wsX5_longest (wsV RX5 105 RX5 yX5_hasPart wsX5_hasPart) := goodIn_app (goodIn_of _ (by decide +kernel)) ggX5_longest_X5_hasPart
set_option maxRecDepth 20000 in
theorem ggX5_longest_X5_finding : GoodIn wsX5_longest wsX5_finding := goodIn_r _ [21, 1, 22, 113, 114, 115, 116, 117, 118, 119, 120] (by decide +kernel) (by decide +kernel)
set_option maxRecDepth 20000 in
theorem gX5_longest_X5_finding : GoodIn wsX5_longest (wsV RX5 58 RX5 yX5_finding wsX5_finding) := goodIn_app (goodIn_of _ (by decide +kernel)) ggX5_longest_X5_finding
set_option maxRecDepth 20000 in
theorem ggX5_longest_X5_inside : GoodIn wsX5_longest wsX5_inside := goodIn_r _ [17] (by decide +kernel) (by decide +kernel)
set_option maxRecDepth 20000 in
theorem gX5_longest_X5_inside : GoodIn wsX5_longest (va_wsS RX5 53 yX5_inside wsX5_inside) := goodIn_app (goodIn_of _ (by decide +kernel)) ggX5_longest_X5_inside
set_option maxRecDepth 20000 in
theorem ggX5_longest_X5_rehearsal : GoodIn wsX5_longest wsX5_rehearsal := goodIn_r _ [26, 27, 2, 28, 29, 30, 31, 32, 33, 34, 35, 36, 37, 38, 39, 40, 41, 42, 43, 44, 45, 46, 113, 114, 115, 116, 117, 118, 119, 120, 121, 122, 123, 124, 125, 126, 127, 128, 129, 130] (by decide +kernel) (by decide +kernel)
set_option maxRecDepth 20000 in
theorem gX5_longest_X5_rehearsal : GoodIn wsX5_longest (wsV RX5 163 RX5 yX5_rehearsal wsX5_rehearsal) := goodIn_app (goodIn_of _ (by decide +kernel)) ggX5_longest_X5_rehearsal
set_option maxRecDepth 20000 in
theorem ggX5_longest_X1_daysTillDone : GoodIn wsX5_longest wsX1_daysTillDone := goodIn_r _ [50, 51, 52, 53, 54, 31, 55, 44, 42, 43, 56, 57, 58, 59, 60, 61, 62, 63, 34, 64, 65, 66, 67, 36, 46, 33, 68, 69, 70, 71, 72, 73, 74, 75, 76, 77, 78, 79, 45, 80, 81, 82, 83, 84, 85, 86, 87, 88, 89, 90, 35, 91, 92, 93, 94, 95, 96, 97, 98, 37, 99, 100, 101, 102, 103, 104, 105, 106, 107, 108, 109, 110, 111, 112, 121, 122, 123, 124, 125, 126, 127, 128, 129, 130] (by decide +kernel) (by decide +kernel)
set_option maxRecDepth 20000 in
theorem gX5_longest_X1_daysTillDone : GoodIn wsX5_longest (wsV RX5 170 RX1 yX1_daysTillDone wsX1_daysTillDone) := goodIn_app (goodIn_of _ (by decide +kernel)) ggX5_longest_X1_daysTillDone
theorem dX5_longest_0 : decode cX5_longest 0 = .ok (.aload_n 0, 1) := by decide +kernel
theorem dX5_longest_1 : decode cX5_longest 1 = .ok (.iload_n 1, 1) := by decide +kernel
theorem dX5_longest_2 : decode cX5_longest 2 = .ok (.invokevirtual 105, 3) := by decide +kernel
theorem dX5_longest_5 : decode cX5_longest 5 = .ok (.ifCond .ne 10, 3) := by decide +kernel
theorem dX5_longest_8 : decode cX5_longest 8 = .ok (.aload_n 0, 1) := by decide +kernel
theorem dX5_longest_9 : decode cX5_longest 9 = .ok (.ldc 57, 2) := by decide +kernel
theorem dX5_longest_11 : decode cX5_longest 11 = .ok (.invokevirtual 58, 3) := by decide +kernel
theorem dX5_longest_14 : decode cX5_longest 14 = .ok (.ireturn, 1) := by decide +kernel
theorem dX5_longest_15 : decode cX5_longest 15 = .ok (.aload_n 0, 1) := by decide +kernel
theorem dX5_longest_16 : decode cX5_longest 16 = .ok (.getfield 10, 3) := by decide +kernel
theorem dX5_longest_19 : decode cX5_longest 19 = .ok (.getfield 117, 3) := by decide +kernel
theorem dX5_longest_22 : decode cX5_longest 22 = .ok (.iload_n 1, 1) := by decide +kernel
theorem dX5_longest_23 : decode cX5_longest 23 = .ok (.iaload, 1) := by decide +kernel
theorem dX5_longest_24 : decode cX5_longest 24 = .ok (.aload_n 0, 1) := by decide +kernel
theorem dX5_longest_25 : decode cX5_longest 25 = .ok (.getfield 10, 3) := by decide +kernel
theorem dX5_longest_28 : decode cX5_longest 28 = .ok (.getfield 69, 3) := by decide +kernel
theorem dX5_longest_31 : decode cX5_longest 31 = .ok (.isub, 1) := by decide +kernel
theorem dX5_longest_32 : decode cX5_longest 32 = .ok (.iconst 1, 1) := by decide +kernel
theorem dX5_longest_33 : decode cX5_longest 33 = .ok (.iadd, 1) := by decide +kernel
theorem dX5_longest_34 : decode cX5_longest 34 = .ok (.istore_n 2, 1) := by decide +kernel
theorem dX5_longest_35 : decode cX5_longest 35 = .ok (.iload_n 2, 1) := by decide +kernel
theorem dX5_longest_36 : decode cX5_longest 36 = .ok (.iconst 1, 1) := by decide +kernel
theorem dX5_longest_37 : decode cX5_longest 37 = .ok (.sipush 400, 3) := by decide +kernel
theorem dX5_longest_40 : decode cX5_longest 40 = .ok (.invokestatic 53, 3) := by decide +kernel
theorem dX5_longest_43 : decode cX5_longest 43 = .ok (.ifCond .ne 10, 3) := by decide +kernel
theorem dX5_longest_46 : decode cX5_longest 46 = .ok (.aload_n 0, 1) := by decide +kernel
theorem dX5_longest_47 : decode cX5_longest 47 = .ok (.ldc 158, 2) := by decide +kernel
theorem dX5_longest_49 : decode cX5_longest 49 = .ok (.invokevirtual 58, 3) := by decide +kernel
theorem dX5_longest_52 : decode cX5_longest 52 = .ok (.ireturn, 1) := by decide +kernel
theorem dX5_longest_53 : decode cX5_longest 53 = .ok (.bipush 99, 2) := by decide +kernel
theorem dX5_longest_55 : decode cX5_longest 55 = .ok (.istore_n 3, 1) := by decide +kernel
theorem dX5_longest_56 : decode cX5_longest 56 = .ok (.iload_n 3, 1) := by decide +kernel
theorem dX5_longest_57 : decode cX5_longest 57 = .ok (.iconst 1, 1) := by decide +kernel
theorem dX5_longest_58 : decode cX5_longest 58 = .ok (.if_icmp .lt 37, 3) := by decide +kernel
theorem dX5_longest_61 : decode cX5_longest 61 = .ok (.aload_n 0, 1) := by decide +kernel
theorem dX5_longest_62 : decode cX5_longest 62 = .ok (.invokevirtual 163, 3) := by decide +kernel
theorem dX5_longest_65 : decode cX5_longest 65 = .ok (.astore 4, 2) := by decide +kernel
theorem dX5_longest_67 : decode cX5_longest 67 = .ok (.aload 4, 2) := by decide +kernel
theorem dX5_longest_69 : decode cX5_longest 69 = .ok (.getfield 111, 3) := by decide +kernel
theorem dX5_longest_72 : decode cX5_longest 72 = .ok (.iload_n 1, 1) := by decide +kernel
theorem dX5_longest_73 : decode cX5_longest 73 = .ok (.iload_n 3, 1) := by decide +kernel
theorem dX5_longest_74 : decode cX5_longest 74 = .ok (.iastore, 1) := by decide +kernel
theorem dX5_longest_75 : decode cX5_longest 75 = .ok (.aload 4, 2) := by decide +kernel
theorem dX5_longest_77 : decode cX5_longest 77 = .ok (.iload_n 1, 1) := by decide +kernel
theorem dX5_longest_78 : decode cX5_longest 78 = .ok (.iload_n 2, 1) := by decide +kernel
theorem dX5_longest_79 : decode cX5_longest 79 = .ok (.invokevirtual 170, 3) := by decide +kernel
theorem dX5_longest_82 : decode cX5_longest 82 = .ok (.ldc 183, 2) := by decide +kernel
theorem dX5_longest_84 : decode cX5_longest 84 = .ok (.if_icmp .eq 5, 3) := by decide +kernel
theorem dX5_longest_87 : decode cX5_longest 87 = .ok (.iload_n 3, 1) := by decide +kernel
theorem dX5_longest_88 : decode cX5_longest 88 = .ok (.ireturn, 1) := by decide +kernel
theorem dX5_longest_89 : decode cX5_longest 89 = .ok (.iinc 3 (-1), 3) := by decide +kernel
theorem dX5_longest_92 : decode cX5_longest 92 = .ok (.goto (-36), 3) := by decide +kernel
theorem dX5_longest_95 : decode cX5_longest 95 = .ok (.aload_n 0, 1) := by decide +kernel
theorem dX5_longest_96 : decode cX5_longest 96 = .ok (.ldc 182, 2) := by decide +kernel
theorem dX5_longest_98 : decode cX5_longest 98 = .ok (.invokevirtual 58, 3) := by decide +kernel
theorem dX5_longest_101 : decode cX5_longest 101 = .ok (.ireturn, 1) := by decide +kernel
set_option maxRecDepth 20000 in
theorem ggX5_due_X5_hasPart : GoodIn wsX5_due wsX5_hasPart := goodIn_r _ [15, 3, 16, 17, 18, 14, 19, 112, 113, 114, 115, 116, 117, 118, 119, 120, 121, 122, 123, 124, 125, 126, 127, 128, 129] (by decide +kernel) (by decide +kernel)
set_option maxRecDepth 20000 in
theorem gX5_due_X5_hasPart : GoodIn wsX5_due (wsV RX5 105 RX5 yX5_hasPart wsX5_hasPart) := goodIn_app (goodIn_of _ (by decide +kernel)) ggX5_due_X5_hasPart
set_option maxRecDepth 20000 in
theorem ggX5_due_X5_finding : GoodIn wsX5_due wsX5_finding := goodIn_r _ [23, 1, 24, 112, 113, 114, 115, 116, 117, 118, 119] (by decide +kernel) (by decide +kernel)
set_option maxRecDepth 20000 in
theorem gX5_due_X5_finding : GoodIn wsX5_due (wsV RX5 58 RX5 yX5_finding wsX5_finding) := goodIn_app (goodIn_of _ (by decide +kernel)) ggX5_due_X5_finding
set_option maxRecDepth 20000 in
theorem ggX5_due_X5_rehearsal : GoodIn wsX5_due wsX5_rehearsal := goodIn_r _ [28, 29, 3, 30, 31, 32, 33, 34, 35, 36, 37, 38, 39, 40, 41, 42, 43, 44, 45, 46, 47, 48, 112, 113, 114, 115, 116, 117, 118, 119, 120, 121, 122, 123, 124, 125, 126, 127, 128, 129] (by decide +kernel) (by decide +kernel)
set_option maxRecDepth 20000 in
theorem gX5_due_X5_rehearsal : GoodIn wsX5_due (wsV RX5 163 RX5 yX5_rehearsal wsX5_rehearsal) := goodIn_app (goodIn_of _ (by decide +kernel)) ggX5_due_X5_rehearsal
set_option maxRecDepth 20000 in
theorem ggX5_due_X1_daysTillDone : GoodIn wsX5_due wsX1_daysTillDone := goodIn_r _ [52, 53, 54, 55, 56, 33, 57, 46, 44, 45, 58, 59, 60, 61, 62, 63, 64, 65, 36, 66, 67, 7, 68, 38, 48, 35, 69, 70, 71, 72, 73, 74, 75, 76, 77, 78, 79, 80, 47, 81, 82, 83, 84, 85, 86, 87, 88, 89, 6, 8, 37, 90, 91, 92, 93, 94, 95, 96, 97, 39, 98, 99, 100, 101, 102, 103, 104, 105, 106, 107, 108, 109, 110, 111, 120, 121, 122, 123, 124, 125, 126, 127, 128, 129] (by decide +kernel) (by decide +kernel)
set_option maxRecDepth 20000 in
theorem gX5_due_X1_daysTillDone : GoodIn wsX5_due (wsV RX5 170 RX1 yX1_daysTillDone wsX1_daysTillDone) := goodIn_app (goodIn_of _ (by decide +kernel)) ggX5_due_X1_daysTillDone
theorem dX5_due_0 : decode cX5_due 0 = .ok (.aload_n 0, 1) := by decide +kernel
theorem dX5_due_1 : decode cX5_due 1 = .ok (.iload_n 1, 1) := by decide +kernel
theorem dX5_due_2 : decode cX5_due 2 = .ok (.invokevirtual 105, 3) := by decide +kernel
theorem dX5_due_5 : decode cX5_due 5 = .ok (.ifCond .ne 10, 3) := by decide +kernel
theorem dX5_due_8 : decode cX5_due 8 = .ok (.aload_n 0, 1) := by decide +kernel
theorem dX5_due_9 : decode cX5_due 9 = .ok (.ldc 57, 2) := by decide +kernel
theorem dX5_due_11 : decode cX5_due 11 = .ok (.invokevirtual 58, 3) := by decide +kernel
theorem dX5_due_14 : decode cX5_due 14 = .ok (.ireturn, 1) := by decide +kernel
theorem dX5_due_15 : decode cX5_due 15 = .ok (.ldc 183, 2) := by decide +kernel
theorem dX5_due_17 : decode cX5_due 17 = .ok (.istore_n 2, 1) := by decide +kernel
theorem dX5_due_18 : decode cX5_due 18 = .ok (.iconst (-1), 1) := by decide +kernel
theorem dX5_due_19 : decode cX5_due 19 = .ok (.istore_n 3, 1) := by decide +kernel
theorem dX5_due_20 : decode cX5_due 20 = .ok (.aload_n 0, 1) := by decide +kernel
theorem dX5_due_21 : decode cX5_due 21 = .ok (.getfield 10, 3) := by decide +kernel
theorem dX5_due_24 : decode cX5_due 24 = .ok (.getfield 69, 3) := by decide +kernel
theorem dX5_due_27 : decode cX5_due 27 = .ok (.bipush 60, 2) := by decide +kernel
theorem dX5_due_29 : decode cX5_due 29 = .ok (.iadd, 1) := by decide +kernel
theorem dX5_due_30 : decode cX5_due 30 = .ok (.sipush 9999, 3) := by decide +kernel
theorem dX5_due_33 : decode cX5_due 33 = .ok (.invokestatic 184, 3) := by decide +kernel
theorem dX5_due_36 : decode cX5_due 36 = .ok (.istore 4, 2) := by decide +kernel
theorem dX5_due_38 : decode cX5_due 38 = .ok (.iload 4, 2) := by decide +kernel
theorem dX5_due_40 : decode cX5_due 40 = .ok (.istore 5, 2) := by decide +kernel
theorem dX5_due_42 : decode cX5_due 42 = .ok (.iload 5, 2) := by decide +kernel
theorem dX5_due_44 : decode cX5_due 44 = .ok (.aload_n 0, 1) := by decide +kernel
theorem dX5_due_45 : decode cX5_due 45 = .ok (.getfield 10, 3) := by decide +kernel
theorem dX5_due_48 : decode cX5_due 48 = .ok (.getfield 69, 3) := by decide +kernel
theorem dX5_due_51 : decode cX5_due 51 = .ok (.if_icmp .lt 47, 3) := by decide +kernel
theorem dX5_due_54 : decode cX5_due 54 = .ok (.aload_n 0, 1) := by decide +kernel
theorem dX5_due_55 : decode cX5_due 55 = .ok (.invokevirtual 163, 3) := by decide +kernel
theorem dX5_due_58 : decode cX5_due 58 = .ok (.astore 6, 2) := by decide +kernel
theorem dX5_due_60 : decode cX5_due 60 = .ok (.aload 6, 2) := by decide +kernel
theorem dX5_due_62 : decode cX5_due 62 = .ok (.getfield 117, 3) := by decide +kernel
theorem dX5_due_65 : decode cX5_due 65 = .ok (.iload_n 1, 1) := by decide +kernel
theorem dX5_due_66 : decode cX5_due 66 = .ok (.iload 5, 2) := by decide +kernel
theorem dX5_due_68 : decode cX5_due 68 = .ok (.iastore, 1) := by decide +kernel
theorem dX5_due_69 : decode cX5_due 69 = .ok (.aload 6, 2) := by decide +kernel
theorem dX5_due_71 : decode cX5_due 71 = .ok (.iload_n 1, 1) := by decide +kernel
theorem dX5_due_72 : decode cX5_due 72 = .ok (.sipush 200, 3) := by decide +kernel
theorem dX5_due_75 : decode cX5_due 75 = .ok (.invokevirtual 170, 3) := by decide +kernel
theorem dX5_due_78 : decode cX5_due 78 = .ok (.istore 7, 2) := by decide +kernel
theorem dX5_due_80 : decode cX5_due 80 = .ok (.iload 7, 2) := by decide +kernel
theorem dX5_due_82 : decode cX5_due 82 = .ok (.iload_n 2, 1) := by decide +kernel
theorem dX5_due_83 : decode cX5_due 83 = .ok (.if_icmp .ge 9, 3) := by decide +kernel
theorem dX5_due_86 : decode cX5_due 86 = .ok (.iload 7, 2) := by decide +kernel
theorem dX5_due_88 : decode cX5_due 88 = .ok (.istore_n 2, 1) := by decide +kernel
theorem dX5_due_89 : decode cX5_due 89 = .ok (.iload 5, 2) := by decide +kernel
theorem dX5_due_91 : decode cX5_due 91 = .ok (.istore_n 3, 1) := by decide +kernel
theorem dX5_due_92 : decode cX5_due 92 = .ok (.iinc 5 (-1), 3) := by decide +kernel
theorem dX5_due_95 : decode cX5_due 95 = .ok (.goto (-53), 3) := by decide +kernel
theorem dX5_due_98 : decode cX5_due 98 = .ok (.iload_n 3, 1) := by decide +kernel
theorem dX5_due_99 : decode cX5_due 99 = .ok (.ifCond .ge 12, 3) := by decide +kernel
theorem dX5_due_102 : decode cX5_due 102 = .ok (.aload_n 0, 1) := by decide +kernel
theorem dX5_due_103 : decode cX5_due 103 = .ok (.ldc 182, 2) := by decide +kernel
theorem dX5_due_105 : decode cX5_due 105 = .ok (.invokevirtual 58, 3) := by decide +kernel
theorem dX5_due_108 : decode cX5_due 108 = .ok (.goto 4, 3) := by decide +kernel
theorem dX5_due_111 : decode cX5_due 111 = .ok (.iload_n 3, 1) := by decide +kernel
theorem dX5_due_112 : decode cX5_due 112 = .ok (.ireturn, 1) := by decide +kernel
set_option maxRecDepth 20000 in
theorem ggX5_feed_X5_inside : GoodIn wsX5_feed wsX5_inside := goodIn_r _ [8] (by decide +kernel) (by decide +kernel)
set_option maxRecDepth 20000 in
theorem gX5_feed_X5_inside : GoodIn wsX5_feed (va_wsS RX5 53 yX5_inside wsX5_inside) := goodIn_app (goodIn_of _ (by decide +kernel)) ggX5_feed_X5_inside
set_option maxRecDepth 20000 in
theorem ggX5_feed_X5_finding : GoodIn wsX5_feed wsX5_finding := goodIn_r _ [12, 1, 13, 21, 22, 23, 24, 25, 26, 27, 28] (by decide +kernel) (by decide +kernel)
set_option maxRecDepth 20000 in
theorem gX5_feed_X5_finding : GoodIn wsX5_feed (wsV RX5 58 RX5 yX5_finding wsX5_finding) := goodIn_app (goodIn_of _ (by decide +kernel)) ggX5_feed_X5_finding
set_option maxRecDepth 20000 in
theorem ggX5_feed_X4_append : GoodIn wsX5_feed wsX4_append := goodIn_r _ [18, 19, 20, 29, 30] (by decide +kernel) (by decide +kernel)
set_option maxRecDepth 20000 in
theorem gX5_feed_X4_append : GoodIn wsX5_feed (wsV RX5 188 RX4 yX4_append wsX4_append) := goodIn_app (goodIn_of _ (by decide +kernel)) ggX5_feed_X4_append
