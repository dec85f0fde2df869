theorem dX5_feed_0 : decode cX5_feed 0 = .ok (.iload_n 2, 1) := by decide +kernel
theorem dX5_feed_1 : decode cX5_feed 1 = .ok (.iconst 1, 1) := by decide +kernel
theorem dX5_feed_2 : decode cX5_feed 2 = .ok (.iconst 4, 1) := by decide +kernel
theorem dX5_feed_3 : decode cX5_feed 3 = .ok (.invokestatic 53, 3) := by decide +kernel
theorem dX5_feed_6 : decode cX5_feed 6 = .ok (.ifCond .ne 10, 3) := by decide +kernel
theorem dX5_feed_9 : decode cX5_feed 9 = .ok (.aload_n 0, 1) := by decide +kernel
theorem dX5_feed_10 : decode cX5_feed 10 = .ok (.ldc 57, 2) := by decide +kernel
theorem dX5_feed_12 : decode cX5_feed 12 = .ok (.invokevirtual 58, 3) := by decide +kernel
theorem dX5_feed_15 : decode cX5_feed 15 = .ok (.ireturn, 1) := by decide +kernel
theorem dX5_feed_16 : decode cX5_feed 16 = .ok (.aload_n 0, 1) := by decide +kernel
theorem dX5_feed_17 : decode cX5_feed 17 = .ok (.getfield 29, 3) := by decide +kernel
theorem dX5_feed_20 : decode cX5_feed 20 = .ok (.getfield 187, 3) := by decide +kernel
theorem dX5_feed_23 : decode cX5_feed 23 = .ok (.iload_n 2, 1) := by decide +kernel
theorem dX5_feed_24 : decode cX5_feed 24 = .ok (.iadd, 1) := by decide +kernel
theorem dX5_feed_25 : decode cX5_feed 25 = .ok (.bipush 120, 2) := by decide +kernel
theorem dX5_feed_27 : decode cX5_feed 27 = .ok (.if_icmp .le 10, 3) := by decide +kernel
theorem dX5_feed_30 : decode cX5_feed 30 = .ok (.aload_n 0, 1) := by decide +kernel
theorem dX5_feed_31 : decode cX5_feed 31 = .ok (.ldc 100, 2) := by decide +kernel
theorem dX5_feed_33 : decode cX5_feed 33 = .ok (.invokevirtual 58, 3) := by decide +kernel
theorem dX5_feed_36 : decode cX5_feed 36 = .ok (.ireturn, 1) := by decide +kernel
theorem dX5_feed_37 : decode cX5_feed 37 = .ok (.bipush 8, 2) := by decide +kernel
theorem dX5_feed_39 : decode cX5_feed 39 = .ok (.iload_n 2, 1) := by decide +kernel
theorem dX5_feed_40 : decode cX5_feed 40 = .ok (.iconst 1, 1) := by decide +kernel
theorem dX5_feed_41 : decode cX5_feed 41 = .ok (.isub, 1) := by decide +kernel
theorem dX5_feed_42 : decode cX5_feed 42 = .ok (.imul, 1) := by decide +kernel
theorem dX5_feed_43 : decode cX5_feed 43 = .ok (.istore_n 3, 1) := by decide +kernel
theorem dX5_feed_44 : decode cX5_feed 44 = .ok (.iload_n 3, 1) := by decide +kernel
theorem dX5_feed_45 : decode cX5_feed 45 = .ok (.ifCond .lt 20, 3) := by decide +kernel
theorem dX5_feed_48 : decode cX5_feed 48 = .ok (.aload_n 0, 1) := by decide +kernel
theorem dX5_feed_49 : decode cX5_feed 49 = .ok (.getfield 29, 3) := by decide +kernel
theorem dX5_feed_52 : decode cX5_feed 52 = .ok (.iload_n 1, 1) := by decide +kernel
theorem dX5_feed_53 : decode cX5_feed 53 = .ok (.iload_n 3, 1) := by decide +kernel
theorem dX5_feed_54 : decode cX5_feed 54 = .ok (.ishr, 1) := by decide +kernel
theorem dX5_feed_55 : decode cX5_feed 55 = .ok (.i2b, 1) := by decide +kernel
theorem dX5_feed_56 : decode cX5_feed 56 = .ok (.invokevirtual 188, 3) := by decide +kernel
theorem dX5_feed_59 : decode cX5_feed 59 = .ok (.iinc 3 (-8), 3) := by decide +kernel
theorem dX5_feed_62 : decode cX5_feed 62 = .ok (.goto (-18), 3) := by decide +kernel
theorem dX5_feed_65 : decode cX5_feed 65 = .ok (.aload_n 0, 1) := by decide +kernel
theorem dX5_feed_66 : decode cX5_feed 66 = .ok (.getfield 29, 3) := by decide +kernel
theorem dX5_feed_69 : decode cX5_feed 69 = .ok (.getfield 187, 3) := by decide +kernel
theorem dX5_feed_72 : decode cX5_feed 72 = .ok (.ireturn, 1) := by decide +kernel
theorem dX5_wipe_0 : decode cX5_wipe 0 = .ok (.aload_n 0, 1) := by decide +kernel
theorem dX5_wipe_1 : decode cX5_wipe 1 = .ok (.getfield 29, 3) := by decide +kernel
theorem dX5_wipe_4 : decode cX5_wipe 4 = .ok (.getfield 187, 3) := by decide +kernel
theorem dX5_wipe_7 : decode cX5_wipe 7 = .ok (.istore_n 1, 1) := by decide +kernel
theorem dX5_wipe_8 : decode cX5_wipe 8 = .ok (.aload_n 0, 1) := by decide +kernel
theorem dX5_wipe_9 : decode cX5_wipe 9 = .ok (.getfield 29, 3) := by decide +kernel
theorem dX5_wipe_12 : decode cX5_wipe 12 = .ok (.iconst 0, 1) := by decide +kernel
theorem dX5_wipe_13 : decode cX5_wipe 13 = .ok (.putfield 187, 3) := by decide +kernel
theorem dX5_wipe_16 : decode cX5_wipe 16 = .ok (.iload_n 1, 1) := by decide +kernel
theorem dX5_wipe_17 : decode cX5_wipe 17 = .ok (.ireturn, 1) := by decide +kernel
set_option maxRecDepth 20000 in
theorem ggX5_nursery_X5_rehearsal : GoodIn wsX5_nursery wsX5_rehearsal := goodIn_r _ [9, 10, 4, 11, 12, 13, 14, 15, 16, 17, 18, 19, 20, 21, 22, 23, 24, 25, 26, 27, 28, 29, 146, 147, 148, 149, 150, 151, 152, 153, 156, 157, 158, 159, 160, 161, 162, 163, 164, 165] (by decide +kernel) (by decide +kernel)
set_option maxRecDepth 20000 in
theorem gX5_nursery_X5_rehearsal : GoodIn wsX5_nursery (wsV RX5 163 RX5 yX5_rehearsal wsX5_rehearsal) := goodIn_app (goodIn_of _ (by decide +kernel)) ggX5_nursery_X5_rehearsal
set_option maxRecDepth 20000 in
theorem ggX5_nursery_X2_tell : GoodIn wsX5_nursery wsX2_tell := goodIn_r _ [34, 35, 36, 37, 38, 39, 40, 33, 41, 42, 43, 44, 45, 46, 47, 48, 49, 50, 51, 52, 53, 54, 55, 56, 57, 58, 59, 60, 61, 62, 63, 64, 65, 66, 67, 68, 69, 70, 71, 72, 73, 74, 75, 76, 77, 78, 79, 80, 81, 82, 83, 84, 85, 86, 87, 88, 89, 90, 91, 92, 93, 94, 95, 96, 97, 98, 99, 100, 101, 102, 103, 104, 105, 106, 107, 108, 109, 110, 111, 112, 113, 114, 115, 116, 117, 118, 119, 120, 121, 122, 123, 124, 125, 126, 127, 128, 129, 130, 14, 131, 19, 132, 133, 134, 135, 136, 137, 138, 139, 25, 26, 27, 28, 29, 140, 141, 142, 143, 144, 145, 166, 167, 168, 169, 170, 154, 155, 156, 157, 158, 159, 160, 161, 162, 163, 164, 165] (by decide +kernel) (by decide +kernel)
set_option maxRecDepth 20000 in
theorem gX5_nursery_X2_tell : GoodIn wsX5_nursery (wsV RX5 192 RX2 yX2_tell wsX2_tell) := goodIn_app (goodIn_of _ (by decide +kernel)) ggX5_nursery_X2_tell
set_option maxRecDepth 20000 in
theorem ggX5_nursery_X1_become : GoodIn wsX5_nursery wsX1_become := goodIn_r _ [15, 16, 17, 18, 19, 20, 21, 22, 23, 24, 25, 26, 27, 28, 29, 156, 157, 158, 159, 160, 161, 162, 163, 164, 165] (by decide +kernel) (by decide +kernel)
set_option maxRecDepth 20000 in
theorem gX5_nursery_X1_become : GoodIn wsX5_nursery (wsV RX5 196 RX1 yX1_become wsX1_become) := goodIn_app (goodIn_of _ (by decide +kernel)) ggX5_nursery_X1_become
theorem dX5_nursery_0 : decode cX5_nursery 0 = .ok (.aload_n 0, 1) := by decide +kernel
theorem dX5_nursery_1 : decode cX5_nursery 1 = .ok (.invokevirtual 163, 3) := by decide +kernel
theorem dX5_nursery_4 : decode cX5_nursery 4 = .ok (.astore_n 1, 1) := by decide +kernel
theorem dX5_nursery_5 : decode cX5_nursery 5 = .ok (.aload_n 0, 1) := by decide +kernel
theorem dX5_nursery_6 : decode cX5_nursery 6 = .ok (.getfield 38, 3) := by decide +kernel
theorem dX5_nursery_9 : decode cX5_nursery 9 = .ok (.aload_n 1, 1) := by decide +kernel
theorem dX5_nursery_10 : decode cX5_nursery 10 = .ok (.invokevirtual 192, 3) := by decide +kernel
theorem dX5_nursery_13 : decode cX5_nursery 13 = .ok (.istore_n 2, 1) := by decide +kernel
theorem dX5_nursery_14 : decode cX5_nursery 14 = .ok (.aload_n 0, 1) := by decide +kernel
theorem dX5_nursery_15 : decode cX5_nursery 15 = .ok (.getfield 29, 3) := by decide +kernel
theorem dX5_nursery_18 : decode cX5_nursery 18 = .ok (.iconst 0, 1) := by decide +kernel
theorem dX5_nursery_19 : decode cX5_nursery 19 = .ok (.putfield 187, 3) := by decide +kernel
theorem dX5_nursery_22 : decode cX5_nursery 22 = .ok (.iload_n 2, 1) := by decide +kernel
theorem dX5_nursery_23 : decode cX5_nursery 23 = .ok (.ifCond .lt 11, 3) := by decide +kernel
theorem dX5_nursery_26 : decode cX5_nursery 26 = .ok (.aload_n 0, 1) := by decide +kernel
theorem dX5_nursery_27 : decode cX5_nursery 27 = .ok (.getfield 10, 3) := by decide +kernel
theorem dX5_nursery_30 : decode cX5_nursery 30 = .ok (.aload_n 1, 1) := by decide +kernel
theorem dX5_nursery_31 : decode cX5_nursery 31 = .ok (.invokevirtual 196, 3) := by decide +kernel
theorem dX5_nursery_34 : decode cX5_nursery 34 = .ok (.iload_n 2, 1) := by decide +kernel
theorem dX5_nursery_35 : decode cX5_nursery 35 = .ok (.ireturn, 1) := by decide +kernel
set_option maxRecDepth 20000 in
theorem ggX5_sheet_X5_sheetAt : GoodIn wsX5_sheet wsX5_sheetAt := goodIn_r _ [8, 9, 10, 11, 7, 12, 36, 37, 38, 39, 40, 41, 42, 43] (by decide +kernel) (by decide +kernel)
set_option maxRecDepth 20000 in
theorem gX5_sheet_X5_sheetAt : GoodIn wsX5_sheet (wsV RX5 200 RX5 yX5_sheetAt wsX5_sheetAt) := goodIn_app (goodIn_of _ (by decide +kernel)) ggX5_sheet_X5_sheetAt
set_option maxRecDepth 20000 in
theorem ggX5_sheet_X5_finding : GoodIn wsX5_sheet wsX5_finding := goodIn_r _ [16, 1, 17, 36, 37, 38, 39, 40, 41, 42, 43] (by decide +kernel) (by decide +kernel)
set_option maxRecDepth 20000 in
theorem gX5_sheet_X5_finding : GoodIn wsX5_sheet (wsV RX5 58 RX5 yX5_finding wsX5_finding) := goodIn_app (goodIn_of _ (by decide +kernel)) ggX5_sheet_X5_finding
set_option maxRecDepth 20000 in
theorem ggX5_sheet_X3_begin : GoodIn wsX5_sheet wsX3_begin := goodIn_r _ [22, 23, 24, 25, 26, 27, 28, 29, 30, 31, 32, 33, 34, 35] (by decide +kernel) (by decide +kernel)
set_option maxRecDepth 20000 in
theorem gX5_sheet_X3_begin : GoodIn wsX5_sheet (wsV RX5 205 RX3 yX3_begin wsX3_begin) := goodIn_app (goodIn_of _ (by decide +kernel)) ggX5_sheet_X3_begin
theorem dX5_sheet_0 : decode cX5_sheet 0 = .ok (.aload_n 0, 1) := by decide +kernel
theorem dX5_sheet_1 : decode cX5_sheet 1 = .ok (.iload_n 1, 1) := by decide +kernel
theorem dX5_sheet_2 : decode cX5_sheet 2 = .ok (.invokevirtual 200, 3) := by decide +kernel
theorem dX5_sheet_5 : decode cX5_sheet 5 = .ok (.astore 4, 2) := by decide +kernel
theorem dX5_sheet_7 : decode cX5_sheet 7 = .ok (.aload 4, 2) := by decide +kernel
theorem dX5_sheet_9 : decode cX5_sheet 9 = .ok (.ifnull 25, 3) := by decide +kernel
theorem dX5_sheet_12 : decode cX5_sheet 12 = .ok (.iload_n 2, 1) := by decide +kernel
theorem dX5_sheet_13 : decode cX5_sheet 13 = .ok (.ifCond .eq 28, 3) := by decide +kernel
theorem dX5_sheet_16 : decode cX5_sheet 16 = .ok (.iload_n 2, 1) := by decide +kernel
theorem dX5_sheet_17 : decode cX5_sheet 17 = .ok (.bipush 8, 2) := by decide +kernel
theorem dX5_sheet_19 : decode cX5_sheet 19 = .ok (.if_icmp .eq 22, 3) := by decide +kernel
theorem dX5_sheet_22 : decode cX5_sheet 22 = .ok (.iload_n 2, 1) := by decide +kernel
theorem dX5_sheet_23 : decode cX5_sheet 23 = .ok (.bipush 16, 2) := by decide +kernel
theorem dX5_sheet_25 : decode cX5_sheet 25 = .ok (.if_icmp .eq 16, 3) := by decide +kernel
theorem dX5_sheet_28 : decode cX5_sheet 28 = .ok (.iload_n 2, 1) := by decide +kernel
theorem dX5_sheet_29 : decode cX5_sheet 29 = .ok (.bipush 64, 2) := by decide +kernel
theorem dX5_sheet_31 : decode cX5_sheet 31 = .ok (.if_icmp .eq 10, 3) := by decide +kernel
theorem dX5_sheet_34 : decode cX5_sheet 34 = .ok (.aload_n 0, 1) := by decide +kernel
theorem dX5_sheet_35 : decode cX5_sheet 35 = .ok (.ldc 57, 2) := by decide +kernel
theorem dX5_sheet_37 : decode cX5_sheet 37 = .ok (.invokevirtual 58, 3) := by decide +kernel
theorem dX5_sheet_40 : decode cX5_sheet 40 = .ok (.ireturn, 1) := by decide +kernel
theorem dX5_sheet_41 : decode cX5_sheet 41 = .ok (.iload_n 3, 1) := by decide +kernel
theorem dX5_sheet_42 : decode cX5_sheet 42 = .ok (.ifCond .ge 10, 3) := by decide +kernel
theorem dX5_sheet_45 : decode cX5_sheet 45 = .ok (.aload_n 0, 1) := by decide +kernel
theorem dX5_sheet_46 : decode cX5_sheet 46 = .ok (.ldc 204, 2) := by decide +kernel
theorem dX5_sheet_48 : decode cX5_sheet 48 = .ok (.invokevirtual 58, 3) := by decide +kernel
theorem dX5_sheet_51 : decode cX5_sheet 51 = .ok (.ireturn, 1) := by decide +kernel
theorem dX5_sheet_52 : decode cX5_sheet 52 = .ok (.iload_n 3, 1) := by decide +kernel
theorem dX5_sheet_53 : decode cX5_sheet 53 = .ok (.bipush 40, 2) := by decide +kernel
theorem dX5_sheet_55 : decode cX5_sheet 55 = .ok (.if_icmp .le 10, 3) := by decide +kernel
theorem dX5_sheet_58 : decode cX5_sheet 58 = .ok (.aload_n 0, 1) := by decide +kernel
theorem dX5_sheet_59 : decode cX5_sheet 59 = .ok (.ldc 57, 2) := by decide +kernel
theorem dX5_sheet_61 : decode cX5_sheet 61 = .ok (.invokevirtual 58, 3) := by decide +kernel
theorem dX5_sheet_64 : decode cX5_sheet 64 = .ok (.ireturn, 1) := by decide +kernel
theorem dX5_sheet_65 : decode cX5_sheet 65 = .ok (.aload 4, 2) := by decide +kernel
theorem dX5_sheet_67 : decode cX5_sheet 67 = .ok (.iload_n 2, 1) := by decide +kernel
theorem dX5_sheet_68 : decode cX5_sheet 68 = .ok (.iload_n 2, 1) := by decide +kernel
theorem dX5_sheet_69 : decode cX5_sheet 69 = .ok (.ifCond .ne 7, 3) := by decide +kernel
theorem dX5_sheet_72 : decode cX5_sheet 72 = .ok (.iconst 0, 1) := by decide +kernel
theorem dX5_sheet_73 : decode cX5_sheet 73 = .ok (.goto 4, 3) := by decide +kernel
theorem dX5_sheet_76 : decode cX5_sheet 76 = .ok (.iload_n 3, 1) := by decide +kernel
theorem dX5_sheet_77 : decode cX5_sheet 77 = .ok (.invokevirtual 205, 3) := by decide +kernel
theorem dX5_sheet_80 : decode cX5_sheet 80 = .ok (.aload 4, 2) := by decide +kernel
theorem dX5_sheet_82 : decode cX5_sheet 82 = .ok (.getfield 209, 3) := by decide +kernel
theorem dX5_sheet_85 : decode cX5_sheet 85 = .ok (.ireturn, 1) := by decide +kernel
set_option maxRecDepth 20000 in
theorem ggX5_write_X5_sheetAt : GoodIn wsX5_write wsX5_sheetAt := goodIn_r _ [9, 10, 11, 12, 8, 13, 38, 39, 40, 41, 42, 43, 44, 45] (by decide +kernel) (by decide +kernel)
set_option maxRecDepth 20000 in
theorem gX5_write_X5_sheetAt : GoodIn wsX5_write (wsV RX5 200 RX5 yX5_sheetAt wsX5_sheetAt) := goodIn_app (goodIn_of _ (by decide +kernel)) ggX5_write_X5_sheetAt
set_option maxRecDepth 20000 in
theorem ggX5_write_X5_finding : GoodIn wsX5_write wsX5_finding := goodIn_r _ [17, 1, 18, 38, 39, 40, 41, 42, 43, 44, 45] (by decide +kernel) (by decide +kernel)
set_option maxRecDepth 20000 in
theorem gX5_write_X5_finding : GoodIn wsX5_write (wsV RX5 58 RX5 yX5_finding wsX5_finding) := goodIn_app (goodIn_of _ (by decide +kernel)) ggX5_write_X5_finding
set_option maxRecDepth 20000 in
theorem ggX5_write_X3_isMissing : GoodIn wsX5_write wsX3_isMissing := goodIn_r _ [23, 24, 35, 36, 37] (by decide +kernel) (by decide +kernel)
set_option maxRecDepth 20000 in
theorem gX5_write_X3_isMissing : GoodIn wsX5_write (wsV RX5 210 RX3 yX3_isMissing wsX3_isMissing) := goodIn_app (goodIn_of _ (by decide +kernel)) ggX5_write_X3_isMissing
set_option maxRecDepth 20000 in
theorem ggX5_write_X5_inside : GoodIn wsX5_write wsX5_inside := goodIn_r _ [13] (by decide +kernel) (by decide +kernel)
set_option maxRecDepth 20000 in
theorem gX5_write_X5_inside : GoodIn wsX5_write (va_wsS RX5 53 yX5_inside wsX5_inside) := goodIn_app (goodIn_of _ (by decide +kernel)) ggX5_write_X5_inside
set_option maxRecDepth 20000 in
theorem ggX5_write_X3_put : GoodIn wsX5_write wsX3_put := goodIn_r _ [28, 29, 30, 31, 32, 33, 22, 34, 24, 35, 36, 37] (by decide +kernel) (by decide +kernel)
set_option maxRecDepth 20000 in
theorem gX5_write_X3_put : GoodIn wsX5_write (wsV RX5 218 RX3 yX3_put wsX3_put) := goodIn_app (goodIn_of _ (by decide +kernel)) ggX5_write_X3_put
theorem dX5_write_0 : decode cX5_write 0 = .ok (.aload_n 0, 1) := by decide +kernel
theorem dX5_write_1 : decode cX5_write 1 = .ok (.iload_n 1, 1) := by decide +kernel
theorem dX5_write_2 : decode cX5_write 2 = .ok (.invokevirtual 200, 3) := by decide +kernel
theorem dX5_write_5 : decode cX5_write 5 = .ok (.astore 5, 2) := by decide +kernel
theorem dX5_write_7 : decode cX5_write 7 = .ok (.aload 5, 2) := by decide +kernel
theorem dX5_write_9 : decode cX5_write 9 = .ok (.ifnonnull 11, 3) := by decide +kernel
theorem dX5_write_12 : decode cX5_write 12 = .ok (.aload_n 0, 1) := by decide +kernel
theorem dX5_write_13 : decode cX5_write 13 = .ok (.ldc 57, 2) := by decide +kernel
theorem dX5_write_15 : decode cX5_write 15 = .ok (.invokevirtual 58, 3) := by decide +kernel
theorem dX5_write_18 : decode cX5_write 18 = .ok (.i2l, 1) := by decide +kernel
theorem dX5_write_19 : decode cX5_write 19 = .ok (.lreturn, 1) := by decide +kernel
theorem dX5_write_20 : decode cX5_write 20 = .ok (.aload 5, 2) := by decide +kernel
theorem dX5_write_22 : decode cX5_write 22 = .ok (.invokevirtual 210, 3) := by decide +kernel
theorem dX5_write_25 : decode cX5_write 25 = .ok (.ifCond .eq 11, 3) := by decide +kernel
theorem dX5_write_28 : decode cX5_write 28 = .ok (.aload_n 0, 1) := by decide +kernel
theorem dX5_write_29 : decode cX5_write 29 = .ok (.ldc 213, 2) := by decide +kernel
theorem dX5_write_31 : decode cX5_write 31 = .ok (.invokevirtual 58, 3) := by decide +kernel
theorem dX5_write_34 : decode cX5_write 34 = .ok (.i2l, 1) := by decide +kernel
theorem dX5_write_35 : decode cX5_write 35 = .ok (.lreturn, 1) := by decide +kernel
theorem dX5_write_36 : decode cX5_write 36 = .ok (.iload_n 2, 1) := by decide +kernel
theorem dX5_write_37 : decode cX5_write 37 = .ok (.iconst 0, 1) := by decide +kernel
theorem dX5_write_38 : decode cX5_write 38 = .ok (.aload 5, 2) := by decide +kernel
theorem dX5_write_40 : decode cX5_write 40 = .ok (.getfield 209, 3) := by decide +kernel
theorem dX5_write_43 : decode cX5_write 43 = .ok (.iconst 1, 1) := by decide +kernel
theorem dX5_write_44 : decode cX5_write 44 = .ok (.isub, 1) := by decide +kernel
theorem dX5_write_45 : decode cX5_write 45 = .ok (.invokestatic 53, 3) := by decide +kernel
theorem dX5_write_48 : decode cX5_write 48 = .ok (.ifCond .ne 11, 3) := by decide +kernel
theorem dX5_write_51 : decode cX5_write 51 = .ok (.aload_n 0, 1) := by decide +kernel
theorem dX5_write_52 : decode cX5_write 52 = .ok (.ldc 57, 2) := by decide +kernel
theorem dX5_write_54 : decode cX5_write 54 = .ok (.invokevirtual 58, 3) := by decide +kernel
theorem dX5_write_57 : decode cX5_write 57 = .ok (.i2l, 1) := by decide +kernel
theorem dX5_write_58 : decode cX5_write 58 = .ok (.lreturn, 1) := by decide +kernel
theorem dX5_write_59 : decode cX5_write 59 = .ok (.aload 5, 2) := by decide +kernel
theorem dX5_write_61 : decode cX5_write 61 = .ok (.getfield 214, 3) := by decide +kernel
theorem dX5_write_64 : decode cX5_write 64 = .ok (.iload_n 2, 1) := by decide +kernel
theorem dX5_write_65 : decode cX5_write 65 = .ok (.laload, 1) := by decide +kernel
theorem dX5_write_66 : decode cX5_write 66 = .ok (.lstore 6, 2) := by decide +kernel
theorem dX5_write_68 : decode cX5_write 68 = .ok (.aload 5, 2) := by decide +kernel
theorem dX5_write_70 : decode cX5_write 70 = .ok (.iload_n 2, 1) := by decide +kernel
theorem dX5_write_71 : decode cX5_write 71 = .ok (.lload_n 3, 1) := by decide +kernel
theorem dX5_write_72 : decode cX5_write 72 = .ok (.invokevirtual 218, 3) := by decide +kernel
theorem dX5_write_75 : decode cX5_write 75 = .ok (.lload 6, 2) := by decide +kernel
theorem dX5_write_77 : decode cX5_write 77 = .ok (.lreturn, 1) := by decide +kernel
set_option maxRecDepth 20000 in
theorem ggX5_copy_X5_sheetAt : GoodIn wsX5_copy wsX5_sheetAt := goodIn_r _ [14, 15, 16, 17, 13, 18, 38, 39, 40, 41, 42, 43, 44, 45] (by decide +kernel) (by decide +kernel)
set_option maxRecDepth 20000 in
theorem gX5_copy_X5_sheetAt : GoodIn wsX5_copy (wsV RX5 200 RX5 yX5_sheetAt wsX5_sheetAt) := goodIn_app (goodIn_of _ (by decide +kernel)) ggX5_copy_X5_sheetAt
set_option maxRecDepth 20000 in
theorem ggX5_copy_X5_finding : GoodIn wsX5_copy wsX5_finding := goodIn_r _ [22, 1, 23, 38, 39, 40, 41, 42, 43, 44, 45] (by decide +kernel) (by decide +kernel)
set_option maxRecDepth 20000 in
theorem gX5_copy_X5_finding : GoodIn wsX5_copy (wsV RX5 58 RX5 yX5_finding wsX5_finding) := goodIn_app (goodIn_of _ (by decide +kernel)) ggX5_copy_X5_finding
set_option maxRecDepth 20000 in
theorem ggX5_copy_X3_isMissing : GoodIn wsX5_copy wsX3_isMissing := goodIn_r _ [28, 29, 35, 36, 37] (by decide +kernel) (by decide +kernel)
set_option maxRecDepth 20000 in
theorem gX5_copy_X3_isMissing : GoodIn wsX5_copy (wsV RX5 210 RX3 yX3_isMissing wsX3_isMissing) := goodIn_app (goodIn_of _ (by decide +kernel)) ggX5_copy_X3_isMissing
set_option maxRecDepth 20000 in
theorem ggX5_copy_X3_hasSpan : GoodIn wsX5_copy wsX3_hasSpan := goodIn_r _ [33, 34, 35, 36, 37] (by decide +kernel) (by decide +kernel)
set_option maxRecDepth 20000 in
theorem gX5_copy_X3_hasSpan : GoodIn wsX5_copy (wsV RX5 225 RX3 yX3_hasSpan wsX3_hasSpan) := goodIn_app (goodIn_of _ (by decide +kernel)) ggX5_copy_X3_hasSpan
theorem dX5_copy_0 : decode cX5_copy 0 = .ok (.aload_n 0, 1) := by decide +kernel
theorem dX5_copy_1 : decode cX5_copy 1 = .ok (.iload_n 1, 1) := by decide +kernel
theorem dX5_copy_2 : decode cX5_copy 2 = .ok (.invokevirtual 200, 3) := by decide +kernel
theorem dX5_copy_5 : decode cX5_copy 5 = .ok (.astore 6, 2) := by decide +kernel
theorem dX5_copy_7 : decode cX5_copy 7 = .ok (.aload_n 0, 1) := by decide +kernel
theorem dX5_copy_8 : decode cX5_copy 8 = .ok (.iload_n 3, 1) := by decide +kernel
theorem dX5_copy_9 : decode cX5_copy 9 = .ok (.invokevirtual 200, 3) := by decide +kernel
theorem dX5_copy_12 : decode cX5_copy 12 = .ok (.astore 7, 2) := by decide +kernel
theorem dX5_copy_14 : decode cX5_copy 14 = .ok (.aload 6, 2) := by decide +kernel
theorem dX5_copy_16 : decode cX5_copy 16 = .ok (.ifnull 8, 3) := by decide +kernel
theorem dX5_copy_19 : decode cX5_copy 19 = .ok (.aload 7, 2) := by decide +kernel
theorem dX5_copy_21 : decode cX5_copy 21 = .ok (.ifnonnull 10, 3) := by decide +kernel
theorem dX5_copy_24 : decode cX5_copy 24 = .ok (.aload_n 0, 1) := by decide +kernel
theorem dX5_copy_25 : decode cX5_copy 25 = .ok (.ldc 57, 2) := by decide +kernel
theorem dX5_copy_27 : decode cX5_copy 27 = .ok (.invokevirtual 58, 3) := by decide +kernel
theorem dX5_copy_30 : decode cX5_copy 30 = .ok (.ireturn, 1) := by decide +kernel
theorem dX5_copy_31 : decode cX5_copy 31 = .ok (.aload 6, 2) := by decide +kernel
theorem dX5_copy_33 : decode cX5_copy 33 = .ok (.invokevirtual 210, 3) := by decide +kernel
theorem dX5_copy_36 : decode cX5_copy 36 = .ok (.ifCond .ne 11, 3) := by decide +kernel
theorem dX5_copy_39 : decode cX5_copy 39 = .ok (.aload 7, 2) := by decide +kernel
theorem dX5_copy_41 : decode cX5_copy 41 = .ok (.invokevirtual 210, 3) := by decide +kernel
theorem dX5_copy_44 : decode cX5_copy 44 = .ok (.ifCond .eq 10, 3) := by decide +kernel
theorem dX5_copy_47 : decode cX5_copy 47 = .ok (.aload_n 0, 1) := by decide +kernel
theorem dX5_copy_48 : decode cX5_copy 48 = .ok (.ldc 213, 2) := by decide +kernel
theorem dX5_copy_50 : decode cX5_copy 50 = .ok (.invokevirtual 58, 3) := by decide +kernel
theorem dX5_copy_53 : decode cX5_copy 53 = .ok (.ireturn, 1) := by decide +kernel
theorem dX5_copy_54 : decode cX5_copy 54 = .ok (.aload 6, 2) := by decide +kernel
theorem dX5_copy_56 : decode cX5_copy 56 = .ok (.getfield 222, 3) := by decide +kernel
theorem dX5_copy_59 : decode cX5_copy 59 = .ok (.aload 7, 2) := by decide +kernel
theorem dX5_copy_61 : decode cX5_copy 61 = .ok (.getfield 222, 3) := by decide +kernel
theorem dX5_copy_64 : decode cX5_copy 64 = .ok (.if_icmp .eq 10, 3) := by decide +kernel
theorem dX5_copy_67 : decode cX5_copy 67 = .ok (.aload_n 0, 1) := by decide +kernel
theorem dX5_copy_68 : decode cX5_copy 68 = .ok (.ldc 152, 2) := by decide +kernel
theorem dX5_copy_70 : decode cX5_copy 70 = .ok (.invokevirtual 58, 3) := by decide +kernel
theorem dX5_copy_73 : decode cX5_copy 73 = .ok (.ireturn, 1) := by decide +kernel
theorem dX5_copy_74 : decode cX5_copy 74 = .ok (.aload 6, 2) := by decide +kernel
theorem dX5_copy_76 : decode cX5_copy 76 = .ok (.iload_n 2, 1) := by decide +kernel
theorem dX5_copy_77 : decode cX5_copy 77 = .ok (.iload 5, 2) := by decide +kernel
theorem dX5_copy_79 : decode cX5_copy 79 = .ok (.invokevirtual 225, 3) := by decide +kernel
theorem dX5_copy_82 : decode cX5_copy 82 = .ok (.ifCond .eq 15, 3) := by decide +kernel
theorem dX5_copy_85 : decode cX5_copy 85 = .ok (.aload 7, 2) := by decide +kernel
theorem dX5_copy_87 : decode cX5_copy 87 = .ok (.iload 4, 2) := by decide +kernel
theorem dX5_copy_89 : decode cX5_copy 89 = .ok (.iload 5, 2) := by decide +kernel
theorem dX5_copy_91 : decode cX5_copy 91 = .ok (.invokevirtual 225, 3) := by decide +kernel
theorem dX5_copy_94 : decode cX5_copy 94 = .ok (.ifCond .ne 10, 3) := by decide +kernel
theorem dX5_copy_97 : decode cX5_copy 97 = .ok (.aload_n 0, 1) := by decide +kernel
theorem dX5_copy_98 : decode cX5_copy 98 = .ok (.ldc 57, 2) := by decide +kernel
theorem dX5_copy_100 : decode cX5_copy 100 = .ok (.invokevirtual 58, 3) := by decide +kernel
theorem dX5_copy_103 : decode cX5_copy 103 = .ok (.ireturn, 1) := by decide +kernel
theorem dX5_copy_104 : decode cX5_copy 104 = .ok (.aload 6, 2) := by decide +kernel
theorem dX5_copy_106 : decode cX5_copy 106 = .ok (.getfield 214, 3) := by decide +kernel
theorem dX5_copy_109 : decode cX5_copy 109 = .ok (.iload_n 2, 1) := by decide +kernel
theorem dX5_copy_110 : decode cX5_copy 110 = .ok (.aload 7, 2) := by decide +kernel
theorem dX5_copy_112 : decode cX5_copy 112 = .ok (.getfield 214, 3) := by decide +kernel
theorem dX5_copy_115 : decode cX5_copy 115 = .ok (.iload 4, 2) := by decide +kernel
theorem dX5_copy_117 : decode cX5_copy 117 = .ok (.iload 5, 2) := by decide +kernel
theorem dX5_copy_119 : decode cX5_copy 119 = .ok (.invokestatic 228, 3) := by decide +kernel
theorem dX5_copy_122 : decode cX5_copy 122 = .ok (.iload 5, 2) := by decide +kernel
theorem dX5_copy_124 : decode cX5_copy 124 = .ok (.ireturn, 1) := by decide +kernel
set_option maxRecDepth 20000 in
theorem ggX5_lays_X5_sheetAt : GoodIn wsX5_lays wsX5_sheetAt := goodIn_r _ [17, 18, 19, 20, 16, 21, 36, 37, 38, 39, 40, 41, 42, 43] (by decide +kernel) (by decide +kernel)
set_option maxRecDepth 20000 in
theorem gX5_lays_X5_sheetAt : GoodIn wsX5_lays (wsV RX5 200 RX5 yX5_sheetAt wsX5_sheetAt) := goodIn_app (goodIn_of _ (by decide +kernel)) ggX5_lays_X5_sheetAt
set_option maxRecDepth 20000 in
theorem ggX5_lays_X5_finding : GoodIn wsX5_lays wsX5_finding := goodIn_r _ [25, 1, 26, 36, 37, 38, 39, 40, 41, 42, 43] (by decide +kernel) (by decide +kernel)
set_option maxRecDepth 20000 in
theorem gX5_lays_X5_finding : GoodIn wsX5_lays (wsV RX5 58 RX5 yX5_finding wsX5_finding) := goodIn_app (goodIn_of _ (by decide +kernel)) ggX5_lays_X5_finding
set_option maxRecDepth 20000 in
theorem ggX5_lays_X3_isMissing : GoodIn wsX5_lays wsX3_isMissing := goodIn_r _ [31, 32, 33, 34, 35] (by decide +kernel) (by decide +kernel)
set_option maxRecDepth 20000 in
theorem gX5_lays_X3_isMissing : GoodIn wsX5_lays (wsV RX5 210 RX3 yX3_isMissing wsX3_isMissing) := goodIn_app (goodIn_of _ (by decide +kernel)) ggX5_lays_X3_isMissing
theorem dX5_lays_0 : decode cX5_lays 0 = .ok (.aload_n 0, 1) := by decide +kernel
theorem dX5_lays_1 : decode cX5_lays 1 = .ok (.iload_n 1, 1) := by decide +kernel
theorem dX5_lays_2 : decode cX5_lays 2 = .ok (.invokevirtual 200, 3) := by decide +kernel
theorem dX5_lays_5 : decode cX5_lays 5 = .ok (.astore_n 2, 1) := by decide +kernel
theorem dX5_lays_6 : decode cX5_lays 6 = .ok (.aload_n 2, 1) := by decide +kernel
theorem dX5_lays_7 : decode cX5_lays 7 = .ok (.ifnonnull 10, 3) := by decide +kernel
theorem dX5_lays_10 : decode cX5_lays 10 = .ok (.aload_n 0, 1) := by decide +kernel
theorem dX5_lays_11 : decode cX5_lays 11 = .ok (.ldc 57, 2) := by decide +kernel
theorem dX5_lays_13 : decode cX5_lays 13 = .ok (.invokevirtual 58, 3) := by decide +kernel
theorem dX5_lays_16 : decode cX5_lays 16 = .ok (.ireturn, 1) := by decide +kernel
theorem dX5_lays_17 : decode cX5_lays 17 = .ok (.aload_n 2, 1) := by decide +kernel
theorem dX5_lays_18 : decode cX5_lays 18 = .ok (.invokevirtual 210, 3) := by decide +kernel
theorem dX5_lays_21 : decode cX5_lays 21 = .ok (.ifCond .eq 10, 3) := by decide +kernel
theorem dX5_lays_24 : decode cX5_lays 24 = .ok (.aload_n 0, 1) := by decide +kernel
theorem dX5_lays_25 : decode cX5_lays 25 = .ok (.ldc 213, 2) := by decide +kernel
theorem dX5_lays_27 : decode cX5_lays 27 = .ok (.invokevirtual 58, 3) := by decide +kernel
theorem dX5_lays_30 : decode cX5_lays 30 = .ok (.ireturn, 1) := by decide +kernel
theorem dX5_lays_31 : decode cX5_lays 31 = .ok (.iconst 0, 1) := by decide +kernel
theorem dX5_lays_32 : decode cX5_lays 32 = .ok (.istore_n 3, 1) := by decide +kernel
theorem dX5_lays_33 : decode cX5_lays 33 = .ok (.aload_n 2, 1) := by decide +kernel
theorem dX5_lays_34 : decode cX5_lays 34 = .ok (.getfield 209, 3) := by decide +kernel
theorem dX5_lays_37 : decode cX5_lays 37 = .ok (.aload_n 0, 1) := by decide +kernel
theorem dX5_lays_38 : decode cX5_lays 38 = .ok (.getfield 10, 3) := by decide +kernel
theorem dX5_lays_41 : decode cX5_lays 41 = .ok (.getfield 167, 3) := by decide +kernel
theorem dX5_lays_44 : decode cX5_lays 44 = .ok (.invokestatic 184, 3) := by decide +kernel
theorem dX5_lays_47 : decode cX5_lays 47 = .ok (.istore 4, 2) := by decide +kernel
theorem dX5_lays_49 : decode cX5_lays 49 = .ok (.iconst 0, 1) := by decide +kernel
theorem dX5_lays_50 : decode cX5_lays 50 = .ok (.istore 5, 2) := by decide +kernel
theorem dX5_lays_52 : decode cX5_lays 52 = .ok (.iload 5, 2) := by decide +kernel
theorem dX5_lays_54 : decode cX5_lays 54 = .ok (.iload 4, 2) := by decide +kernel
theorem dX5_lays_56 : decode cX5_lays 56 = .ok (.if_icmp .ge 50, 3) := by decide +kernel
theorem dX5_lays_59 : decode cX5_lays 59 = .ok (.aload_n 2, 1) := by decide +kernel
theorem dX5_lays_60 : decode cX5_lays 60 = .ok (.getfield 214, 3) := by decide +kernel
theorem dX5_lays_63 : decode cX5_lays 63 = .ok (.iload 5, 2) := by decide +kernel
theorem dX5_lays_65 : decode cX5_lays 65 = .ok (.laload, 1) := by decide +kernel
theorem dX5_lays_66 : decode cX5_lays 66 = .ok (.lstore 6, 2) := by decide +kernel
theorem dX5_lays_68 : decode cX5_lays 68 = .ok (.lload 6, 2) := by decide +kernel
theorem dX5_lays_70 : decode cX5_lays 70 = .ok (.lconst 0, 1) := by decide +kernel
theorem dX5_lays_71 : decode cX5_lays 71 = .ok (.lcmp, 1) := by decide +kernel
theorem dX5_lays_72 : decode cX5_lays 72 = .ok (.ifCond .lt 28, 3) := by decide +kernel
theorem dX5_lays_75 : decode cX5_lays 75 = .ok (.lload 6, 2) := by decide +kernel
theorem dX5_lays_77 : decode cX5_lays 77 = .ok (.ldc2_w 234, 3) := by decide +kernel
theorem dX5_lays_80 : decode cX5_lays 80 = .ok (.lcmp, 1) := by decide +kernel
theorem dX5_lays_81 : decode cX5_lays 81 = .ok (.ifCond .gt 19, 3) := by decide +kernel
theorem dX5_lays_84 : decode cX5_lays 84 = .ok (.aload_n 0, 1) := by decide +kernel
theorem dX5_lays_85 : decode cX5_lays 85 = .ok (.getfield 10, 3) := by decide +kernel
theorem dX5_lays_88 : decode cX5_lays 88 = .ok (.getfield 117, 3) := by decide +kernel
theorem dX5_lays_91 : decode cX5_lays 91 = .ok (.iload 5, 2) := by decide +kernel
theorem dX5_lays_93 : decode cX5_lays 93 = .ok (.lload 6, 2) := by decide +kernel
theorem dX5_lays_95 : decode cX5_lays 95 = .ok (.l2i, 1) := by decide +kernel
theorem dX5_lays_96 : decode cX5_lays 96 = .ok (.iastore, 1) := by decide +kernel
theorem dX5_lays_97 : decode cX5_lays 97 = .ok (.iinc 3 1, 3) := by decide +kernel
theorem dX5_lays_100 : decode cX5_lays 100 = .ok (.iinc 5 1, 3) := by decide +kernel
theorem dX5_lays_103 : decode cX5_lays 103 = .ok (.goto (-51), 3) := by decide +kernel
theorem dX5_lays_106 : decode cX5_lays 106 = .ok (.iload_n 3, 1) := by decide +kernel
theorem dX5_lays_107 : decode cX5_lays 107 = .ok (.ireturn, 1) := by decide +kernel
set_option maxRecDepth 20000 in
theorem ggX5_book_X5_sheetAt : GoodIn wsX5_book wsX5_sheetAt := goodIn_r _ [8, 9, 10, 11, 7, 12, 123, 124, 125, 126, 127, 128, 129, 130] (by decide +kernel) (by decide +kernel)
set_option maxRecDepth 20000 in
theorem gX5_book_X5_sheetAt : GoodIn wsX5_book (wsV RX5 200 RX5 yX5_sheetAt wsX5_sheetAt) := goodIn_app (goodIn_of _ (by decide +kernel)) ggX5_book_X5_sheetAt
set_option maxRecDepth 20000 in
theorem ggX5_book_X5_finding : GoodIn wsX5_book wsX5_finding := goodIn_r _ [16, 1, 17, 123, 124, 125, 126, 127, 128, 129, 130] (by decide +kernel) (by decide +kernel)
set_option maxRecDepth 20000 in
theorem gX5_book_X5_finding : GoodIn wsX5_book (wsV RX5 58 RX5 yX5_finding wsX5_finding) := goodIn_app (goodIn_of _ (by decide +kernel)) ggX5_book_X5_finding
set_option maxRecDepth 20000 in
theorem ggX5_book_X3_isMissing : GoodIn wsX5_book wsX3_isMissing := goodIn_r _ [22, 23, 120, 121, 122] (by decide +kernel) (by decide +kernel)
set_option maxRecDepth 20000 in
theorem gX5_book_X3_isMissing : GoodIn wsX5_book (wsV RX5 210 RX3 yX3_isMissing wsX3_isMissing) := goodIn_app (goodIn_of _ (by decide +kernel)) ggX5_book_X3_isMissing
set_option maxRecDepth 20000 in
theorem ggX5_book_X5_rehearsal : GoodIn wsX5_book wsX5_rehearsal := goodIn_r _ [27, 28, 29, 30, 31, 32, 33, 34, 35, 36, 37, 38, 39, 40, 41, 42, 43, 44, 45, 46, 47, 48, 123, 124, 125, 126, 127, 128, 129, 130, 131, 132, 133, 134, 135, 136, 137, 138, 139, 140] (by decide +kernel) (by decide +kernel)
set_option maxRecDepth 20000 in
theorem gX5_book_X5_rehearsal : GoodIn wsX5_book (wsV RX5 163 RX5 yX5_rehearsal wsX5_rehearsal) := goodIn_app (goodIn_of _ (by decide +kernel)) ggX5_book_X5_rehearsal
set_option maxRecDepth 20000 in
theorem ggX5_book_X1_passDay : GoodIn wsX5_book wsX1_passDay := goodIn_r _ [52, 36, 53, 54, 55, 56, 38, 48, 35, 57, 58, 59, 33, 60, 61, 62, 63, 64, 65, 66, 67, 68, 46, 44, 45, 69, 70, 71, 72, 73, 74, 75, 76, 47, 77, 78, 79, 80, 81, 82, 83, 84, 85, 86, 87, 37, 88, 89, 90, 91, 92, 93, 94, 95, 39, 96, 97, 98, 99, 100, 101, 102, 103, 104, 105, 106, 107, 108, 109, 131, 132, 133, 134, 135, 136, 137, 138, 139, 140] (by decide +kernel) (by decide +kernel)
set_option maxRecDepth 20000 in
theorem gX5_book_X1_passDay : GoodIn wsX5_book (wsV RX5 236 RX1 yX1_passDay wsX1_passDay) := goodIn_app (goodIn_of _ (by decide +kernel)) ggX5_book_X1_passDay
set_option maxRecDepth 20000 in
theorem ggX5_book_X3_put : GoodIn wsX5_book wsX3_put := goodIn_r _ [113, 114, 115, 116, 117, 118, 21, 119, 23, 120, 121, 122] (by decide +kernel) (by decide +kernel)
set_option maxRecDepth 20000 in
theorem gX5_book_X3_put : GoodIn wsX5_book (wsV RX5 218 RX3 yX3_put wsX3_put) := goodIn_app (goodIn_of _ (by decide +kernel)) ggX5_book_X3_put
theorem dX5_book_0 : decode cX5_book 0 = .ok (.aload_n 0, 1) := by decide +kernel
theorem dX5_book_1 : decode cX5_book 1 = .ok (.iload_n 1, 1) := by decide +kernel
theorem dX5_book_2 : decode cX5_book 2 = .ok (.invokevirtual 200, 3) := by decide +kernel
theorem dX5_book_5 : decode cX5_book 5 = .ok (.astore_n 2, 1) := by decide +kernel
theorem dX5_book_6 : decode cX5_book 6 = .ok (.aload_n 2, 1) := by decide +kernel
theorem dX5_book_7 : decode cX5_book 7 = .ok (.ifnonnull 10, 3) := by decide +kernel
theorem dX5_book_10 : decode cX5_book 10 = .ok (.aload_n 0, 1) := by decide +kernel
theorem dX5_book_11 : decode cX5_book 11 = .ok (.ldc 57, 2) := by decide +kernel
theorem dX5_book_13 : decode cX5_book 13 = .ok (.invokevirtual 58, 3) := by decide +kernel
theorem dX5_book_16 : decode cX5_book 16 = .ok (.ireturn, 1) := by decide +kernel
theorem dX5_book_17 : decode cX5_book 17 = .ok (.aload_n 2, 1) := by decide +kernel
theorem dX5_book_18 : decode cX5_book 18 = .ok (.invokevirtual 210, 3) := by decide +kernel
theorem dX5_book_21 : decode cX5_book 21 = .ok (.ifCond .eq 10, 3) := by decide +kernel
theorem dX5_book_24 : decode cX5_book 24 = .ok (.aload_n 0, 1) := by decide +kernel
theorem dX5_book_25 : decode cX5_book 25 = .ok (.ldc 213, 2) := by decide +kernel
theorem dX5_book_27 : decode cX5_book 27 = .ok (.invokevirtual 58, 3) := by decide +kernel
theorem dX5_book_30 : decode cX5_book 30 = .ok (.ireturn, 1) := by decide +kernel
theorem dX5_book_31 : decode cX5_book 31 = .ok (.aload_n 0, 1) := by decide +kernel
theorem dX5_book_32 : decode cX5_book 32 = .ok (.invokevirtual 163, 3) := by decide +kernel
theorem dX5_book_35 : decode cX5_book 35 = .ok (.astore_n 3, 1) := by decide +kernel
theorem dX5_book_36 : decode cX5_book 36 = .ok (.iconst 0, 1) := by decide +kernel
theorem dX5_book_37 : decode cX5_book 37 = .ok (.istore 4, 2) := by decide +kernel
theorem dX5_book_39 : decode cX5_book 39 = .ok (.iload 4, 2) := by decide +kernel
theorem dX5_book_41 : decode cX5_book 41 = .ok (.aload_n 2, 1) := by decide +kernel
theorem dX5_book_42 : decode cX5_book 42 = .ok (.getfield 209, 3) := by decide +kernel
theorem dX5_book_45 : decode cX5_book 45 = .ok (.if_icmp .ge 20, 3) := by decide +kernel
theorem dX5_book_48 : decode cX5_book 48 = .ok (.aload_n 2, 1) := by decide +kernel
theorem dX5_book_49 : decode cX5_book 49 = .ok (.iload 4, 2) := by decide +kernel
theorem dX5_book_51 : decode cX5_book 51 = .ok (.aload_n 3, 1) := by decide +kernel
theorem dX5_book_52 : decode cX5_book 52 = .ok (.invokevirtual 236, 3) := by decide +kernel
theorem dX5_book_55 : decode cX5_book 55 = .ok (.i2l, 1) := by decide +kernel
theorem dX5_book_56 : decode cX5_book 56 = .ok (.invokevirtual 218, 3) := by decide +kernel
theorem dX5_book_59 : decode cX5_book 59 = .ok (.iinc 4 1, 3) := by decide +kernel
theorem dX5_book_62 : decode cX5_book 62 = .ok (.goto (-23), 3) := by decide +kernel
theorem dX5_book_65 : decode cX5_book 65 = .ok (.aload_n 2, 1) := by decide +kernel
theorem dX5_book_66 : decode cX5_book 66 = .ok (.getfield 209, 3) := by decide +kernel
theorem dX5_book_69 : decode cX5_book 69 = .ok (.ireturn, 1) := by decide +kernel
set_option maxRecDepth 20000 in
theorem ggX5_read_X5_sheetAt : GoodIn wsX5_read wsX5_sheetAt := goodIn_r _ [9, 10, 11, 12, 8, 13, 132, 133, 134, 135, 136, 137, 138, 139] (by decide +kernel) (by decide +kernel)
set_option maxRecDepth 20000 in
theorem gX5_read_X5_sheetAt : GoodIn wsX5_read (wsV RX5 200 RX5 yX5_sheetAt wsX5_sheetAt) := goodIn_app (goodIn_of _ (by decide +kernel)) ggX5_read_X5_sheetAt
set_option maxRecDepth 20000 in
theorem ggX5_read_X5_finding : GoodIn wsX5_read wsX5_finding := goodIn_r _ [17, 1, 18, 132, 133, 134, 135, 136, 137, 138, 139] (by decide +kernel) (by decide +kernel)
set_option maxRecDepth 20000 in
theorem gX5_read_X5_finding : GoodIn wsX5_read (wsV RX5 58 RX5 yX5_finding wsX5_finding) := goodIn_app (goodIn_of _ (by decide +kernel)) ggX5_read_X5_finding
set_option maxRecDepth 20000 in
theorem ggX5_read_X3_isMissing : GoodIn wsX5_read wsX3_isMissing := goodIn_r _ [23, 24, 140, 141, 142] (by decide +kernel) (by decide +kernel)
set_option maxRecDepth 20000 in
theorem gX5_read_X3_isMissing : GoodIn wsX5_read (wsV RX5 210 RX3 yX3_isMissing wsX3_isMissing) := goodIn_app (goodIn_of _ (by decide +kernel)) ggX5_read_X3_isMissing
set_option maxRecDepth 20000 in
theorem ggX5_read_X5_hasPart : GoodIn wsX5_read wsX5_hasPart := goodIn_r _ [28, 29, 30, 11, 12, 8, 13, 132, 133, 134, 135, 136, 137, 138, 139, 122, 123, 124, 125, 126, 127, 128, 129, 130, 131] (by decide +kernel) (by decide +kernel)
set_option maxRecDepth 20000 in
theorem gX5_read_X5_hasPart : GoodIn wsX5_read (wsV RX5 105 RX5 yX5_hasPart wsX5_hasPart) := goodIn_app (goodIn_of _ (by decide +kernel)) ggX5_read_X5_hasPart
set_option maxRecDepth 20000 in
theorem ggX5_read_X5_rehearsal : GoodIn wsX5_read wsX5_rehearsal := goodIn_r _ [34, 35, 29, 36, 37, 38, 39, 40, 41, 42, 43, 44, 45, 46, 47, 48, 49, 50, 51, 52, 53, 54, 132, 133, 134, 135, 136, 137, 138, 139, 122, 123, 124, 125, 126, 127, 128, 129, 130, 131] (by decide +kernel) (by decide +kernel)
set_option maxRecDepth 20000 in
theorem gX5_read_X5_rehearsal : GoodIn wsX5_read (wsV RX5 163 RX5 yX5_rehearsal wsX5_rehearsal) := goodIn_app (goodIn_of _ (by decide +kernel)) ggX5_read_X5_rehearsal
set_option maxRecDepth 20000 in
theorem ggX5_read_X5_goesAs : GoodIn wsX5_read wsX5_goesAs := goodIn_r _ [57, 58, 59, 60, 61, 62, 63, 39, 64, 42, 65, 66, 67, 68, 44, 54, 41, 69, 70, 71, 72, 73, 74, 75, 76, 77, 78, 79, 80, 52, 50, 51, 81, 82, 83, 84, 85, 86, 87, 88, 53, 89, 90, 91, 92, 93, 94, 95, 96, 97, 98, 99, 43, 100, 101, 102, 103, 104, 105, 106, 107, 45, 108, 109, 110, 111, 112, 113, 114, 115, 116, 117, 118, 119, 120, 121, 140, 141, 142, 122, 123, 124, 125, 126, 127, 128, 129, 130, 131] (by decide +kernel) (by decide +kernel)
set_option maxRecDepth 20000 in
theorem gX5_read_X5_goesAs : GoodIn wsX5_read (va_wsS RX5 239 yX5_goesAs wsX5_goesAs) := goodIn_app (goodIn_of _ (by decide +kernel)) ggX5_read_X5_goesAs
theorem dX5_read_0 : decode cX5_read 0 = .ok (.aload_n 0, 1) := by decide +kernel
theorem dX5_read_1 : decode cX5_read 1 = .ok (.iload_n 1, 1) := by decide +kernel
theorem dX5_read_2 : decode cX5_read 2 = .ok (.invokevirtual 200, 3) := by decide +kernel
theorem dX5_read_5 : decode cX5_read 5 = .ok (.astore_n 3, 1) := by decide +kernel
theorem dX5_read_6 : decode cX5_read 6 = .ok (.aload_n 3, 1) := by decide +kernel
theorem dX5_read_7 : decode cX5_read 7 = .ok (.ifnonnull 10, 3) := by decide +kernel
theorem dX5_read_10 : decode cX5_read 10 = .ok (.aload_n 0, 1) := by decide +kernel
theorem dX5_read_11 : decode cX5_read 11 = .ok (.ldc 57, 2) := by decide +kernel
theorem dX5_read_13 : decode cX5_read 13 = .ok (.invokevirtual 58, 3) := by decide +kernel
theorem dX5_read_16 : decode cX5_read 16 = .ok (.ireturn, 1) := by decide +kernel
theorem dX5_read_17 : decode cX5_read 17 = .ok (.aload_n 3, 1) := by decide +kernel
theorem dX5_read_18 : decode cX5_read 18 = .ok (.invokevirtual 210, 3) := by decide +kernel
theorem dX5_read_21 : decode cX5_read 21 = .ok (.ifCond .eq 10, 3) := by decide +kernel
theorem dX5_read_24 : decode cX5_read 24 = .ok (.aload_n 0, 1) := by decide +kernel
theorem dX5_read_25 : decode cX5_read 25 = .ok (.ldc 213, 2) := by decide +kernel
theorem dX5_read_27 : decode cX5_read 27 = .ok (.invokevirtual 58, 3) := by decide +kernel
theorem dX5_read_30 : decode cX5_read 30 = .ok (.ireturn, 1) := by decide +kernel
theorem dX5_read_31 : decode cX5_read 31 = .ok (.aload_n 0, 1) := by decide +kernel
theorem dX5_read_32 : decode cX5_read 32 = .ok (.iload_n 2, 1) := by decide +kernel
theorem dX5_read_33 : decode cX5_read 33 = .ok (.invokevirtual 105, 3) := by decide +kernel
theorem dX5_read_36 : decode cX5_read 36 = .ok (.ifCond .ne 10, 3) := by decide +kernel
theorem dX5_read_39 : decode cX5_read 39 = .ok (.aload_n 0, 1) := by decide +kernel
theorem dX5_read_40 : decode cX5_read 40 = .ok (.ldc 57, 2) := by decide +kernel
theorem dX5_read_42 : decode cX5_read 42 = .ok (.invokevirtual 58, 3) := by decide +kernel
theorem dX5_read_45 : decode cX5_read 45 = .ok (.ireturn, 1) := by decide +kernel
theorem dX5_read_46 : decode cX5_read 46 = .ok (.iconst 0, 1) := by decide +kernel
theorem dX5_read_47 : decode cX5_read 47 = .ok (.istore 4, 2) := by decide +kernel
theorem dX5_read_49 : decode cX5_read 49 = .ok (.iconst 0, 1) := by decide +kernel
theorem dX5_read_50 : decode cX5_read 50 = .ok (.istore 5, 2) := by decide +kernel
theorem dX5_read_52 : decode cX5_read 52 = .ok (.iload 5, 2) := by decide +kernel
theorem dX5_read_54 : decode cX5_read 54 = .ok (.bipush 6, 2) := by decide +kernel
theorem dX5_read_56 : decode cX5_read 56 = .ok (.if_icmp .ge 60, 3) := by decide +kernel
theorem dX5_read_59 : decode cX5_read 59 = .ok (.iconst 0, 1) := by decide +kernel
theorem dX5_read_60 : decode cX5_read 60 = .ok (.istore 6, 2) := by decide +kernel
theorem dX5_read_62 : decode cX5_read 62 = .ok (.iload 6, 2) := by decide +kernel
theorem dX5_read_64 : decode cX5_read 64 = .ok (.bipush 99, 2) := by decide +kernel
theorem dX5_read_66 : decode cX5_read 66 = .ok (.if_icmp .gt 44, 3) := by decide +kernel
theorem dX5_read_69 : decode cX5_read 69 = .ok (.aload_n 0, 1) := by decide +kernel
theorem dX5_read_70 : decode cX5_read 70 = .ok (.invokevirtual 163, 3) := by decide +kernel
theorem dX5_read_73 : decode cX5_read 73 = .ok (.astore 7, 2) := by decide +kernel
theorem dX5_read_75 : decode cX5_read 75 = .ok (.aload 7, 2) := by decide +kernel
theorem dX5_read_77 : decode cX5_read 77 = .ok (.getfield 108, 3) := by decide +kernel
theorem dX5_read_80 : decode cX5_read 80 = .ok (.iload_n 2, 1) := by decide +kernel
theorem dX5_read_81 : decode cX5_read 81 = .ok (.iload 5, 2) := by decide +kernel
theorem dX5_read_83 : decode cX5_read 83 = .ok (.iastore, 1) := by decide +kernel
theorem dX5_read_84 : decode cX5_read 84 = .ok (.aload 7, 2) := by decide +kernel
theorem dX5_read_86 : decode cX5_read 86 = .ok (.iload 6, 2) := by decide +kernel
theorem dX5_read_88 : decode cX5_read 88 = .ok (.putfield 62, 3) := by decide +kernel
theorem dX5_read_91 : decode cX5_read 91 = .ok (.aload 7, 2) := by decide +kernel
theorem dX5_read_93 : decode cX5_read 93 = .ok (.iload_n 2, 1) := by decide +kernel
theorem dX5_read_94 : decode cX5_read 94 = .ok (.aload_n 3, 1) := by decide +kernel
theorem dX5_read_95 : decode cX5_read 95 = .ok (.invokestatic 239, 3) := by decide +kernel
theorem dX5_read_98 : decode cX5_read 98 = .ok (.ifCond .eq 6, 3) := by decide +kernel
theorem dX5_read_101 : decode cX5_read 101 = .ok (.iinc 4 1, 3) := by decide +kernel
theorem dX5_read_104 : decode cX5_read 104 = .ok (.iinc 6 1, 3) := by decide +kernel
theorem dX5_read_107 : decode cX5_read 107 = .ok (.goto (-45), 3) := by decide +kernel
theorem dX5_read_110 : decode cX5_read 110 = .ok (.iinc 5 1, 3) := by decide +kernel
theorem dX5_read_113 : decode cX5_read 113 = .ok (.goto (-61), 3) := by decide +kernel
theorem dX5_read_116 : decode cX5_read 116 = .ok (.iload 4, 2) := by decide +kernel
theorem dX5_read_118 : decode cX5_read 118 = .ok (.ireturn, 1) := by decide +kernel
set_option maxRecDepth 20000 in
theorem ggX5_image_X1_become : GoodIn wsX5_image wsX1_become := goodIn_r _ [8, 9, 10, 11, 12, 13, 14, 15, 16, 17, 18, 19, 20, 21, 22, 31, 32, 33, 34, 35, 36, 37, 38, 39, 40] (by decide +kernel) (by decide +kernel)
set_option maxRecDepth 20000 in
theorem gX5_image_X1_become : GoodIn wsX5_image (wsV RX5 196 RX1 yX1_become wsX1_become) := goodIn_app (goodIn_of _ (by decide +kernel)) ggX5_image_X1_become
theorem dX5_image_0 : decode cX5_image 0 = .ok (.aload_n 0, 1) := by decide +kernel
theorem dX5_image_1 : decode cX5_image 1 = .ok (.getfield 19, 3) := by decide +kernel
theorem dX5_image_4 : decode cX5_image 4 = .ok (.aload_n 0, 1) := by decide +kernel
theorem dX5_image_5 : decode cX5_image 5 = .ok (.getfield 10, 3) := by decide +kernel
theorem dX5_image_8 : decode cX5_image 8 = .ok (.invokevirtual 196, 3) := by decide +kernel
theorem dX5_image_11 : decode cX5_image 11 = .ok (.aload_n 0, 1) := by decide +kernel
theorem dX5_image_12 : decode cX5_image 12 = .ok (.iconst 1, 1) := by decide +kernel
theorem dX5_image_13 : decode cX5_image 13 = .ok (.putfield 22, 3) := by decide +kernel
theorem dX5_image_16 : decode cX5_image 16 = .ok (.iconst 1, 1) := by decide +kernel
theorem dX5_image_17 : decode cX5_image 17 = .ok (.ireturn, 1) := by decide +kernel
set_option maxRecDepth 20000 in
theorem ggX5_undo_X5_finding : GoodIn wsX5_undo wsX5_finding := goodIn_r _ [10, 11, 12, 32, 33, 34, 35, 36, 37, 38, 39] (by decide +kernel) (by decide +kernel)
set_option maxRecDepth 20000 in
theorem gX5_undo_X5_finding : GoodIn wsX5_undo (wsV RX5 58 RX5 yX5_finding wsX5_finding) := goodIn_app (goodIn_of _ (by decide +kernel)) ggX5_undo_X5_finding
set_option maxRecDepth 20000 in
theorem ggX5_undo_X1_become : GoodIn wsX5_undo wsX1_become := goodIn_r _ [17, 18, 19, 20, 21, 22, 23, 24, 25, 26, 27, 28, 29, 30, 31, 40, 41, 42, 43, 44, 45, 46, 47, 48, 49] (by decide +kernel) (by decide +kernel)
set_option maxRecDepth 20000 in
theorem gX5_undo_X1_become : GoodIn wsX5_undo (wsV RX5 196 RX1 yX1_become wsX1_become) := goodIn_app (goodIn_of _ (by decide +kernel)) ggX5_undo_X1_become
theorem dX5_undo_0 : decode cX5_undo 0 = .ok (.aload_n 0, 1) := by decide +kernel
theorem dX5_undo_1 : decode cX5_undo 1 = .ok (.getfield 22, 3) := by decide +kernel
theorem dX5_undo_4 : decode cX5_undo 4 = .ok (.ifCond .ne 10, 3) := by decide +kernel
theorem dX5_undo_7 : decode cX5_undo 7 = .ok (.aload_n 0, 1) := by decide +kernel
theorem dX5_undo_8 : decode cX5_undo 8 = .ok (.ldc 182, 2) := by decide +kernel
theorem dX5_undo_10 : decode cX5_undo 10 = .ok (.invokevirtual 58, 3) := by decide +kernel
theorem dX5_undo_13 : decode cX5_undo 13 = .ok (.ireturn, 1) := by decide +kernel
theorem dX5_undo_14 : decode cX5_undo 14 = .ok (.aload_n 0, 1) := by decide +kernel
theorem dX5_undo_15 : decode cX5_undo 15 = .ok (.getfield 10, 3) := by decide +kernel
theorem dX5_undo_18 : decode cX5_undo 18 = .ok (.aload_n 0, 1) := by decide +kernel
theorem dX5_undo_19 : decode cX5_undo 19 = .ok (.getfield 19, 3) := by decide +kernel
theorem dX5_undo_22 : decode cX5_undo 22 = .ok (.invokevirtual 196, 3) := by decide +kernel
theorem dX5_undo_25 : decode cX5_undo 25 = .ok (.aload_n 0, 1) := by decide +kernel
theorem dX5_undo_26 : decode cX5_undo 26 = .ok (.getfield 10, 3) := by decide +kernel
theorem dX5_undo_29 : decode cX5_undo 29 = .ok (.getfield 167, 3) := by decide +kernel
theorem dX5_undo_32 : decode cX5_undo 32 = .ok (.ireturn, 1) := by decide +kernel
set_option maxRecDepth 20000 in
theorem ggX5_tear_X5_bit : GoodIn wsX5_tear wsX5_bit := goodIn_r _ [5] (by decide +kernel) (by decide +kernel)
set_option maxRecDepth 20000 in
theorem gX5_tear_X5_bit : GoodIn wsX5_tear (va_wsS RX5 76 yX5_bit wsX5_bit) := goodIn_app (goodIn_of _ (by decide +kernel)) ggX5_tear_X5_bit
theorem dX5_tear_0 : decode cX5_tear 0 = .ok (.aload_n 0, 1) := by decide +kernel
theorem dX5_tear_1 : decode cX5_tear 1 = .ok (.getfield 22, 3) := by decide +kernel
theorem dX5_tear_4 : decode cX5_tear 4 = .ok (.invokestatic 76, 3) := by decide +kernel
theorem dX5_tear_7 : decode cX5_tear 7 = .ok (.istore_n 1, 1) := by decide +kernel
theorem dX5_tear_8 : decode cX5_tear 8 = .ok (.aload_n 0, 1) := by decide +kernel
theorem dX5_tear_9 : decode cX5_tear 9 = .ok (.iconst 0, 1) := by decide +kernel
theorem dX5_tear_10 : decode cX5_tear 10 = .ok (.putfield 22, 3) := by decide +kernel
theorem dX5_tear_13 : decode cX5_tear 13 = .ok (.iload_n 1, 1) := by decide +kernel
theorem dX5_tear_14 : decode cX5_tear 14 = .ok (.ireturn, 1) := by decide +kernel
set_option maxRecDepth 20000 in
theorem ggX5_count_X1_holidays : GoodIn wsX5_count wsX1_holidays := goodIn_r _ [10, 11, 32, 33, 34, 35, 36, 37, 38, 39, 40, 41] (by decide +kernel) (by decide +kernel)
set_option maxRecDepth 20000 in
theorem gX5_count_X1_holidays : GoodIn wsX5_count (wsV RX5 243 RX1 yX1_holidays wsX1_holidays) := goodIn_app (goodIn_of _ (by decide +kernel)) ggX5_count_X1_holidays
set_option maxRecDepth 20000 in
theorem ggX5_count_X1_allPoints : GoodIn wsX5_count wsX1_allPoints := goodIn_r _ [15, 16, 17, 32, 33, 34, 35, 36, 37, 38, 39, 40, 41] (by decide +kernel) (by decide +kernel)
set_option maxRecDepth 20000 in
theorem gX5_count_X1_allPoints : GoodIn wsX5_count (wsV RX5 246 RX1 yX1_allPoints wsX1_allPoints) := goodIn_app (goodIn_of _ (by decide +kernel)) ggX5_count_X1_allPoints
set_option maxRecDepth 20000 in
theorem ggX5_count_X5_finding : GoodIn wsX5_count wsX5_finding := goodIn_r _ [22, 5, 23, 24, 25, 26, 27, 28, 29, 30, 31] (by decide +kernel) (by decide +kernel)
set_option maxRecDepth 20000 in
theorem gX5_count_X5_finding : GoodIn wsX5_count (wsV RX5 58 RX5 yX5_finding wsX5_finding) := goodIn_app (goodIn_of _ (by decide +kernel)) ggX5_count_X5_finding
theorem dX5_count_0 : decode cX5_count 0 = .ok (.iload_n 1, 1) := by decide +kernel
theorem dX5_count_1 : decode cX5_count 1 = .ok (.tableswitch 63 0 3 #[31, 39, 47, 55], 31) := by decide +kernel
theorem dX5_count_32 : decode cX5_count 32 = .ok (.aload_n 0, 1) := by decide +kernel
theorem dX5_count_33 : decode cX5_count 33 = .ok (.getfield 10, 3) := by decide +kernel
theorem dX5_count_36 : decode cX5_count 36 = .ok (.getfield 167, 3) := by decide +kernel
theorem dX5_count_39 : decode cX5_count 39 = .ok (.ireturn, 1) := by decide +kernel
theorem dX5_count_40 : decode cX5_count 40 = .ok (.aload_n 0, 1) := by decide +kernel
theorem dX5_count_41 : decode cX5_count 41 = .ok (.getfield 29, 3) := by decide +kernel
theorem dX5_count_44 : decode cX5_count 44 = .ok (.getfield 187, 3) := by decide +kernel
theorem dX5_count_47 : decode cX5_count 47 = .ok (.ireturn, 1) := by decide +kernel
theorem dX5_count_48 : decode cX5_count 48 = .ok (.aload_n 0, 1) := by decide +kernel
theorem dX5_count_49 : decode cX5_count 49 = .ok (.getfield 10, 3) := by decide +kernel
theorem dX5_count_52 : decode cX5_count 52 = .ok (.invokevirtual 243, 3) := by decide +kernel
theorem dX5_count_55 : decode cX5_count 55 = .ok (.ireturn, 1) := by decide +kernel
theorem dX5_count_56 : decode cX5_count 56 = .ok (.aload_n 0, 1) := by decide +kernel
theorem dX5_count_57 : decode cX5_count 57 = .ok (.getfield 10, 3) := by decide +kernel
theorem dX5_count_60 : decode cX5_count 60 = .ok (.invokevirtual 246, 3) := by decide +kernel
theorem dX5_count_63 : decode cX5_count 63 = .ok (.ireturn, 1) := by decide +kernel
theorem dX5_count_64 : decode cX5_count 64 = .ok (.aload_n 0, 1) := by decide +kernel
theorem dX5_count_65 : decode cX5_count 65 = .ok (.ldc 57, 2) := by decide +kernel
theorem dX5_count_67 : decode cX5_count 67 = .ok (.invokevirtual 58, 3) := by decide +kernel
theorem dX5_count_70 : decode cX5_count 70 = .ok (.ireturn, 1) := by decide +kernel
set_option maxRecDepth 20000 in
theorem ggX5_status_X5_inside : GoodIn wsX5_status wsX5_inside := goodIn_r _ [6] (by decide +kernel) (by decide +kernel)
set_option maxRecDepth 20000 in
theorem gX5_status_X5_inside : GoodIn wsX5_status (va_wsS RX5 53 yX5_inside wsX5_inside) := goodIn_app (goodIn_of _ (by decide +kernel)) ggX5_status_X5_inside
set_option maxRecDepth 20000 in
theorem ggX5_status_X5_finding : GoodIn wsX5_status wsX5_finding := goodIn_r _ [10, 1, 2, 11, 12, 13, 14, 15, 16, 17, 18] (by decide +kernel) (by decide +kernel)
set_option maxRecDepth 20000 in
theorem gX5_status_X5_finding : GoodIn wsX5_status (wsV RX5 58 RX5 yX5_finding wsX5_finding) := goodIn_app (goodIn_of _ (by decide +kernel)) ggX5_status_X5_finding
theorem dX5_status_0 : decode cX5_status 0 = .ok (.iload_n 1, 1) := by decide +kernel
theorem dX5_status_1 : decode cX5_status 1 = .ok (.iconst (-1), 1) := by decide +kernel
theorem dX5_status_2 : decode cX5_status 2 = .ok (.bipush 6, 2) := by decide +kernel
theorem dX5_status_4 : decode cX5_status 4 = .ok (.invokestatic 53, 3) := by decide +kernel
theorem dX5_status_7 : decode cX5_status 7 = .ok (.ifCond .ne 10, 3) := by decide +kernel
theorem dX5_status_10 : decode cX5_status 10 = .ok (.aload_n 0, 1) := by decide +kernel
theorem dX5_status_11 : decode cX5_status 11 = .ok (.ldc 57, 2) := by decide +kernel
theorem dX5_status_13 : decode cX5_status 13 = .ok (.invokevirtual 58, 3) := by decide +kernel
theorem dX5_status_16 : decode cX5_status 16 = .ok (.ireturn, 1) := by decide +kernel
theorem dX5_status_17 : decode cX5_status 17 = .ok (.iload_n 1, 1) := by decide +kernel
theorem dX5_status_18 : decode cX5_status 18 = .ok (.ifCond .lt 10, 3) := by decide +kernel
theorem dX5_status_21 : decode cX5_status 21 = .ok (.aload_n 0, 1) := by decide +kernel
theorem dX5_status_22 : decode cX5_status 22 = .ok (.getfield 49, 3) := by decide +kernel
theorem dX5_status_25 : decode cX5_status 25 = .ok (.iload_n 1, 1) := by decide +kernel
theorem dX5_status_26 : decode cX5_status 26 = .ok (.iaload, 1) := by decide +kernel
theorem dX5_status_27 : decode cX5_status 27 = .ok (.ireturn, 1) := by decide +kernel
theorem dX5_status_28 : decode cX5_status 28 = .ok (.iconst 0, 1) := by decide +kernel
theorem dX5_status_29 : decode cX5_status 29 = .ok (.istore_n 2, 1) := by decide +kernel
theorem dX5_status_30 : decode cX5_status 30 = .ok (.iconst 0, 1) := by decide +kernel
theorem dX5_status_31 : decode cX5_status 31 = .ok (.istore_n 3, 1) := by decide +kernel
theorem dX5_status_32 : decode cX5_status 32 = .ok (.iload_n 3, 1) := by decide +kernel
theorem dX5_status_33 : decode cX5_status 33 = .ok (.bipush 7, 2) := by decide +kernel
theorem dX5_status_35 : decode cX5_status 35 = .ok (.if_icmp .ge 18, 3) := by decide +kernel
theorem dX5_status_38 : decode cX5_status 38 = .ok (.iload_n 2, 1) := by decide +kernel
theorem dX5_status_39 : decode cX5_status 39 = .ok (.aload_n 0, 1) := by decide +kernel
theorem dX5_status_40 : decode cX5_status 40 = .ok (.getfield 49, 3) := by decide +kernel
theorem dX5_status_43 : decode cX5_status 43 = .ok (.iload_n 3, 1) := by decide +kernel
theorem dX5_status_44 : decode cX5_status 44 = .ok (.iaload, 1) := by decide +kernel
theorem dX5_status_45 : decode cX5_status 45 = .ok (.iadd, 1) := by decide +kernel
theorem dX5_status_46 : decode cX5_status 46 = .ok (.istore_n 2, 1) := by decide +kernel
theorem dX5_status_47 : decode cX5_status 47 = .ok (.iinc 3 1, 3) := by decide +kernel
theorem dX5_status_50 : decode cX5_status 50 = .ok (.goto (-18), 3) := by decide +kernel
theorem dX5_status_53 : decode cX5_status 53 = .ok (.iload_n 2, 1) := by decide +kernel
theorem dX5_status_54 : decode cX5_status 54 = .ok (.ireturn, 1) := by decide +kernel
theorem dX5_finding_0 : decode cX5_finding 0 = .ok (.ldc 57, 2) := by decide +kernel
theorem dX5_finding_2 : decode cX5_finding 2 = .ok (.iload_n 1, 1) := by decide +kernel
theorem dX5_finding_3 : decode cX5_finding 3 = .ok (.isub, 1) := by decide +kernel
theorem dX5_finding_4 : decode cX5_finding 4 = .ok (.istore_n 2, 1) := by decide +kernel
theorem dX5_finding_5 : decode cX5_finding 5 = .ok (.iload_n 2, 1) := by decide +kernel
theorem dX5_finding_6 : decode cX5_finding 6 = .ok (.ifCond .lt 19, 3) := by decide +kernel
theorem dX5_finding_9 : decode cX5_finding 9 = .ok (.iload_n 2, 1) := by decide +kernel
theorem dX5_finding_10 : decode cX5_finding 10 = .ok (.bipush 7, 2) := by decide +kernel
theorem dX5_finding_12 : decode cX5_finding 12 = .ok (.if_icmp .ge 13, 3) := by decide +kernel
theorem dX5_finding_15 : decode cX5_finding 15 = .ok (.aload_n 0, 1) := by decide +kernel
theorem dX5_finding_16 : decode cX5_finding 16 = .ok (.getfield 49, 3) := by decide +kernel
theorem dX5_finding_19 : decode cX5_finding 19 = .ok (.iload_n 2, 1) := by decide +kernel
theorem dX5_finding_20 : decode cX5_finding 20 = .ok (.dup2, 1) := by decide +kernel
theorem dX5_finding_21 : decode cX5_finding 21 = .ok (.iaload, 1) := by decide +kernel
theorem dX5_finding_22 : decode cX5_finding 22 = .ok (.iconst 1, 1) := by decide +kernel
theorem dX5_finding_23 : decode cX5_finding 23 = .ok (.iadd, 1) := by decide +kernel
theorem dX5_finding_24 : decode cX5_finding 24 = .ok (.iastore, 1) := by decide +kernel
theorem dX5_finding_25 : decode cX5_finding 25 = .ok (.iload_n 1, 1) := by decide +kernel
theorem dX5_finding_26 : decode cX5_finding 26 = .ok (.ireturn, 1) := by decide +kernel
set_option maxRecDepth 20000 in
theorem ggX5_daysOrNone_X5_finding : GoodIn wsX5_daysOrNone wsX5_finding := goodIn_r _ [7, 8, 9, 10, 11, 12, 13, 14, 15, 16, 17] (by decide +kernel) (by decide +kernel)
set_option maxRecDepth 20000 in
theorem gX5_daysOrNone_X5_finding : GoodIn wsX5_daysOrNone (wsV RX5 58 RX5 yX5_finding wsX5_finding) := goodIn_app (goodIn_of _ (by decide +kernel)) ggX5_daysOrNone_X5_finding
theorem dX5_daysOrNone_0 : decode cX5_daysOrNone 0 = .ok (.iload_n 1, 1) := by decide +kernel
theorem dX5_daysOrNone_1 : decode cX5_daysOrNone 1 = .ok (.ldc 183, 2) := by decide +kernel
theorem dX5_daysOrNone_3 : decode cX5_daysOrNone 3 = .ok (.if_icmp .ne 12, 3) := by decide +kernel
theorem dX5_daysOrNone_6 : decode cX5_daysOrNone 6 = .ok (.aload_n 0, 1) := by decide +kernel
theorem dX5_daysOrNone_7 : decode cX5_daysOrNone 7 = .ok (.ldc 182, 2) := by decide +kernel
theorem dX5_daysOrNone_9 : decode cX5_daysOrNone 9 = .ok (.invokevirtual 58, 3) := by decide +kernel
theorem dX5_daysOrNone_12 : decode cX5_daysOrNone 12 = .ok (.goto 4, 3) := by decide +kernel
theorem dX5_daysOrNone_15 : decode cX5_daysOrNone 15 = .ok (.iload_n 1, 1) := by decide +kernel
theorem dX5_daysOrNone_16 : decode cX5_daysOrNone 16 = .ok (.ireturn, 1) := by decide +kernel
set_option maxRecDepth 20000 in
theorem ggX5_rehearsal_X1_become : GoodIn wsX5_rehearsal wsX1_become := goodIn_r _ [7, 8, 9, 10, 11, 12, 13, 14, 15, 16, 17, 18, 19, 20, 21, 30, 31, 32, 33, 34, 35, 36, 37, 38, 39] (by decide +kernel) (by decide +kernel)
set_option maxRecDepth 20000 in
theorem gX5_rehearsal_X1_become : GoodIn wsX5_rehearsal (wsV RX5 196 RX1 yX1_become wsX1_become) := goodIn_app (goodIn_of _ (by decide +kernel)) ggX5_rehearsal_X1_become
theorem dX5_rehearsal_0 : decode cX5_rehearsal 0 = .ok (.aload_n 0, 1) := by decide +kernel
theorem dX5_rehearsal_1 : decode cX5_rehearsal 1 = .ok (.getfield 16, 3) := by decide +kernel
theorem dX5_rehearsal_4 : decode cX5_rehearsal 4 = .ok (.aload_n 0, 1) := by decide +kernel
theorem dX5_rehearsal_5 : decode cX5_rehearsal 5 = .ok (.getfield 10, 3) := by decide +kernel
theorem dX5_rehearsal_8 : decode cX5_rehearsal 8 = .ok (.invokevirtual 196, 3) := by decide +kernel
theorem dX5_rehearsal_11 : decode cX5_rehearsal 11 = .ok (.aload_n 0, 1) := by decide +kernel
theorem dX5_rehearsal_12 : decode cX5_rehearsal 12 = .ok (.getfield 16, 3) := by decide +kernel
theorem dX5_rehearsal_15 : decode cX5_rehearsal 15 = .ok (.areturn, 1) := by decide +kernel
set_option maxRecDepth 20000 in
theorem ggX5_hasPart_X5_inside : GoodIn wsX5_hasPart wsX5_inside := goodIn_r _ [6] (by decide +kernel) (by decide +kernel)
set_option maxRecDepth 20000 in
theorem gX5_hasPart_X5_inside : GoodIn wsX5_hasPart (va_wsS RX5 53 yX5_inside wsX5_inside) := goodIn_app (goodIn_of _ (by decide +kernel)) ggX5_hasPart_X5_inside
theorem dX5_hasPart_0 : decode cX5_hasPart 0 = .ok (.iload_n 1, 1) := by decide +kernel
theorem dX5_hasPart_1 : decode cX5_hasPart 1 = .ok (.iconst 0, 1) := by decide +kernel
theorem dX5_hasPart_2 : decode cX5_hasPart 2 = .ok (.aload_n 0, 1) := by decide +kernel
theorem dX5_hasPart_3 : decode cX5_hasPart 3 = .ok (.getfield 10, 3) := by decide +kernel
theorem dX5_hasPart_6 : decode cX5_hasPart 6 = .ok (.getfield 167, 3) := by decide +kernel
theorem dX5_hasPart_9 : decode cX5_hasPart 9 = .ok (.iconst 1, 1) := by decide +kernel
theorem dX5_hasPart_10 : decode cX5_hasPart 10 = .ok (.isub, 1) := by decide +kernel
theorem dX5_hasPart_11 : decode cX5_hasPart 11 = .ok (.invokestatic 53, 3) := by decide +kernel
theorem dX5_hasPart_14 : decode cX5_hasPart 14 = .ok (.ireturn, 1) := by decide +kernel
set_option maxRecDepth 20000 in
theorem ggX5_sheetAt_X5_inside : GoodIn wsX5_sheetAt wsX5_inside := goodIn_r _ [5] (by decide +kernel) (by decide +kernel)
set_option maxRecDepth 20000 in
theorem gX5_sheetAt_X5_inside : GoodIn wsX5_sheetAt (va_wsS RX5 53 yX5_inside wsX5_inside) := goodIn_app (goodIn_of _ (by decide +kernel)) ggX5_sheetAt_X5_inside
theorem dX5_sheetAt_0 : decode cX5_sheetAt 0 = .ok (.iload_n 1, 1) := by decide +kernel
theorem dX5_sheetAt_1 : decode cX5_sheetAt 1 = .ok (.iconst 0, 1) := by decide +kernel
theorem dX5_sheetAt_2 : decode cX5_sheetAt 2 = .ok (.iconst 3, 1) := by decide +kernel
theorem dX5_sheetAt_3 : decode cX5_sheetAt 3 = .ok (.invokestatic 53, 3) := by decide +kernel
theorem dX5_sheetAt_6 : decode cX5_sheetAt 6 = .ok (.ifCond .eq 12, 3) := by decide +kernel
theorem dX5_sheetAt_9 : decode cX5_sheetAt 9 = .ok (.aload_n 0, 1) := by decide +kernel
theorem dX5_sheetAt_10 : decode cX5_sheetAt 10 = .ok (.getfield 44, 3) := by decide +kernel
theorem dX5_sheetAt_13 : decode cX5_sheetAt 13 = .ok (.iload_n 1, 1) := by decide +kernel
theorem dX5_sheetAt_14 : decode cX5_sheetAt 14 = .ok (.aaload, 1) := by decide +kernel
theorem dX5_sheetAt_15 : decode cX5_sheetAt 15 = .ok (.goto 4, 3) := by decide +kernel
theorem dX5_sheetAt_18 : decode cX5_sheetAt 18 = .ok (.aconst_null, 1) := by decide +kernel
theorem dX5_sheetAt_19 : decode cX5_sheetAt 19 = .ok (.areturn, 1) := by decide +kernel
set_option maxRecDepth 20000 in
theorem ggX5_exchange_X5_inside : GoodIn wsX5_exchange wsX5_inside := goodIn_r _ [5] (by decide +kernel) (by decide +kernel)
set_option maxRecDepth 20000 in
theorem gX5_exchange_X5_inside : GoodIn wsX5_exchange (va_wsS RX5 53 yX5_inside wsX5_inside) := goodIn_app (goodIn_of _ (by decide +kernel)) ggX5_exchange_X5_inside
set_option maxRecDepth 20000 in
theorem ggX5_exchange_X5_finding : GoodIn wsX5_exchange wsX5_finding := goodIn_r _ [9, 1, 10, 11, 12, 13, 14, 15, 16, 17, 18] (by decide +kernel) (by decide +kernel)
set_option maxRecDepth 20000 in
theorem gX5_exchange_X5_finding : GoodIn wsX5_exchange (wsV RX5 58 RX5 yX5_finding wsX5_finding) := goodIn_app (goodIn_of _ (by decide +kernel)) ggX5_exchange_X5_finding
theorem dX5_exchange_0 : decode cX5_exchange 0 = .ok (.iload_n 3, 1) := by decide +kernel
theorem dX5_exchange_1 : decode cX5_exchange 1 = .ok (.iload 4, 2) := by decide +kernel
theorem dX5_exchange_3 : decode cX5_exchange 3 = .ok (.iload 5, 2) := by decide +kernel
theorem dX5_exchange_5 : decode cX5_exchange 5 = .ok (.invokestatic 53, 3) := by decide +kernel
theorem dX5_exchange_8 : decode cX5_exchange 8 = .ok (.ifCond .eq 15, 3) := by decide +kernel
theorem dX5_exchange_11 : decode cX5_exchange 11 = .ok (.iload_n 2, 1) := by decide +kernel
theorem dX5_exchange_12 : decode cX5_exchange 12 = .ok (.iconst 0, 1) := by decide +kernel
theorem dX5_exchange_13 : decode cX5_exchange 13 = .ok (.aload_n 1, 1) := by decide +kernel
theorem dX5_exchange_14 : decode cX5_exchange 14 = .ok (.arraylength, 1) := by decide +kernel
theorem dX5_exchange_15 : decode cX5_exchange 15 = .ok (.iconst 1, 1) := by decide +kernel
theorem dX5_exchange_16 : decode cX5_exchange 16 = .ok (.isub, 1) := by decide +kernel
theorem dX5_exchange_17 : decode cX5_exchange 17 = .ok (.invokestatic 53, 3) := by decide +kernel
theorem dX5_exchange_20 : decode cX5_exchange 20 = .ok (.ifCond .ne 10, 3) := by decide +kernel
theorem dX5_exchange_23 : decode cX5_exchange 23 = .ok (.aload_n 0, 1) := by decide +kernel
theorem dX5_exchange_24 : decode cX5_exchange 24 = .ok (.ldc 57, 2) := by decide +kernel
theorem dX5_exchange_26 : decode cX5_exchange 26 = .ok (.invokevirtual 58, 3) := by decide +kernel
theorem dX5_exchange_29 : decode cX5_exchange 29 = .ok (.ireturn, 1) := by decide +kernel
theorem dX5_exchange_30 : decode cX5_exchange 30 = .ok (.aload_n 1, 1) := by decide +kernel
theorem dX5_exchange_31 : decode cX5_exchange 31 = .ok (.iload_n 2, 1) := by decide +kernel
theorem dX5_exchange_32 : decode cX5_exchange 32 = .ok (.iaload, 1) := by decide +kernel
theorem dX5_exchange_33 : decode cX5_exchange 33 = .ok (.istore 6, 2) := by decide +kernel
theorem dX5_exchange_35 : decode cX5_exchange 35 = .ok (.aload_n 1, 1) := by decide +kernel
theorem dX5_exchange_36 : decode cX5_exchange 36 = .ok (.iload_n 2, 1) := by decide +kernel
theorem dX5_exchange_37 : decode cX5_exchange 37 = .ok (.iload_n 3, 1) := by decide +kernel
theorem dX5_exchange_38 : decode cX5_exchange 38 = .ok (.iastore, 1) := by decide +kernel
theorem dX5_exchange_39 : decode cX5_exchange 39 = .ok (.iload 6, 2) := by decide +kernel
theorem dX5_exchange_41 : decode cX5_exchange 41 = .ok (.ireturn, 1) := by decide +kernel
set_option maxRecDepth 20000 in
theorem ggX5_goesAs_X1_passDay : GoodIn wsX5_goesAs wsX1_passDay := goodIn_r _ [8, 9, 10, 11, 12, 13, 14, 15, 16, 17, 18, 19, 7, 20, 21, 22, 23, 24, 25, 26, 27, 28, 29, 30, 31, 32, 33, 34, 35, 36, 37, 38, 39, 40, 41, 42, 43, 44, 45, 46, 47, 48, 49, 50, 51, 52, 53, 54, 55, 56, 57, 58, 59, 60, 61, 62, 63, 64, 65, 66, 67, 68, 69, 70, 71, 72, 73, 74, 75, 79, 80, 81, 82, 83, 84, 85, 86, 87, 88] (by decide +kernel) (by decide +kernel)
set_option maxRecDepth 20000 in
theorem gX5_goesAs_X1_passDay : GoodIn wsX5_goesAs (wsV RX5 236 RX1 yX1_passDay wsX1_passDay) := goodIn_app (goodIn_of _ (by decide +kernel)) ggX5_goesAs_X1_passDay
theorem dX5_goesAs_0 : decode cX5_goesAs 0 = .ok (.iconst 0, 1) := by decide +kernel
theorem dX5_goesAs_1 : decode cX5_goesAs 1 = .ok (.istore_n 3, 1) := by decide +kernel
theorem dX5_goesAs_2 : decode cX5_goesAs 2 = .ok (.iload_n 3, 1) := by decide +kernel
theorem dX5_goesAs_3 : decode cX5_goesAs 3 = .ok (.aload_n 2, 1) := by decide +kernel
theorem dX5_goesAs_4 : decode cX5_goesAs 4 = .ok (.getfield 209, 3) := by decide +kernel
theorem dX5_goesAs_7 : decode cX5_goesAs 7 = .ok (.if_icmp .ge 33, 3) := by decide +kernel
theorem dX5_goesAs_10 : decode cX5_goesAs 10 = .ok (.aload_n 0, 1) := by decide +kernel
theorem dX5_goesAs_11 : decode cX5_goesAs 11 = .ok (.getfield 114, 3) := by decide +kernel
theorem dX5_goesAs_14 : decode cX5_goesAs 14 = .ok (.iload_n 1, 1) := by decide +kernel
theorem dX5_goesAs_15 : decode cX5_goesAs 15 = .ok (.iaload, 1) := by decide +kernel
theorem dX5_goesAs_16 : decode cX5_goesAs 16 = .ok (.i2l, 1) := by decide +kernel
theorem dX5_goesAs_17 : decode cX5_goesAs 17 = .ok (.aload_n 2, 1) := by decide +kernel
theorem dX5_goesAs_18 : decode cX5_goesAs 18 = .ok (.getfield 214, 3) := by decide +kernel
theorem dX5_goesAs_21 : decode cX5_goesAs 21 = .ok (.iload_n 3, 1) := by decide +kernel
theorem dX5_goesAs_22 : decode cX5_goesAs 22 = .ok (.laload, 1) := by decide +kernel
theorem dX5_goesAs_23 : decode cX5_goesAs 23 = .ok (.lcmp, 1) := by decide +kernel
theorem dX5_goesAs_24 : decode cX5_goesAs 24 = .ok (.ifCond .eq 5, 3) := by decide +kernel
theorem dX5_goesAs_27 : decode cX5_goesAs 27 = .ok (.iconst 0, 1) := by decide +kernel
theorem dX5_goesAs_28 : decode cX5_goesAs 28 = .ok (.ireturn, 1) := by decide +kernel
theorem dX5_goesAs_29 : decode cX5_goesAs 29 = .ok (.aload_n 0, 1) := by decide +kernel
theorem dX5_goesAs_30 : decode cX5_goesAs 30 = .ok (.invokevirtual 236, 3) := by decide +kernel
theorem dX5_goesAs_33 : decode cX5_goesAs 33 = .ok (.pop, 1) := by decide +kernel
theorem dX5_goesAs_34 : decode cX5_goesAs 34 = .ok (.iinc 3 1, 3) := by decide +kernel
theorem dX5_goesAs_37 : decode cX5_goesAs 37 = .ok (.goto (-35), 3) := by decide +kernel
theorem dX5_goesAs_40 : decode cX5_goesAs 40 = .ok (.iconst 1, 1) := by decide +kernel
theorem dX5_goesAs_41 : decode cX5_goesAs 41 = .ok (.ireturn, 1) := by decide +kernel
set_option maxRecDepth 20000 in
theorem ggX5_isKind_X5_inside : GoodIn wsX5_isKind wsX5_inside := goodIn_r _ [4] (by decide +kernel) (by decide +kernel)
set_option maxRecDepth 20000 in
theorem gX5_isKind_X5_inside : GoodIn wsX5_isKind (va_wsS RX5 53 yX5_inside wsX5_inside) := goodIn_app (goodIn_of _ (by decide +kernel)) ggX5_isKind_X5_inside
theorem dX5_isKind_0 : decode cX5_isKind 0 = .ok (.iload_n 0, 1) := by decide +kernel
theorem dX5_isKind_1 : decode cX5_isKind 1 = .ok (.iconst 0, 1) := by decide +kernel
theorem dX5_isKind_2 : decode cX5_isKind 2 = .ok (.iconst 5, 1) := by decide +kernel
theorem dX5_isKind_3 : decode cX5_isKind 3 = .ok (.invokestatic 53, 3) := by decide +kernel
theorem dX5_isKind_6 : decode cX5_isKind 6 = .ok (.ireturn, 1) := by decide +kernel
theorem dX5_inside_0 : decode cX5_inside 0 = .ok (.iload_n 0, 1) := by decide +kernel
theorem dX5_inside_1 : decode cX5_inside 1 = .ok (.iload_n 1, 1) := by decide +kernel
theorem dX5_inside_2 : decode cX5_inside 2 = .ok (.if_icmp .lt 12, 3) := by decide +kernel
theorem dX5_inside_5 : decode cX5_inside 5 = .ok (.iload_n 0, 1) := by decide +kernel
theorem dX5_inside_6 : decode cX5_inside 6 = .ok (.iload_n 2, 1) := by decide +kernel
theorem dX5_inside_7 : decode cX5_inside 7 = .ok (.if_icmp .gt 7, 3) := by decide +kernel
theorem dX5_inside_10 : decode cX5_inside 10 = .ok (.iconst 1, 1) := by decide +kernel
theorem dX5_inside_11 : decode cX5_inside 11 = .ok (.goto 4, 3) := by decide +kernel
theorem dX5_inside_14 : decode cX5_inside 14 = .ok (.iconst 0, 1) := by decide +kernel
theorem dX5_inside_15 : decode cX5_inside 15 = .ok (.ireturn, 1) := by decide +kernel
theorem dX5_bit_0 : decode cX5_bit 0 = .ok (.iload_n 0, 1) := by decide +kernel
theorem dX5_bit_1 : decode cX5_bit 1 = .ok (.ifCond .eq 7, 3) := by decide +kernel
theorem dX5_bit_4 : decode cX5_bit 4 = .ok (.iconst 1, 1) := by decide +kernel
theorem dX5_bit_5 : decode cX5_bit 5 = .ok (.goto 4, 3) := by decide +kernel
theorem dX5_bit_8 : decode cX5_bit 8 = .ok (.iconst 0, 1) := by decide +kernel
theorem dX5_bit_9 : decode cX5_bit 9 = .ok (.ireturn, 1) := by decide +kernel
