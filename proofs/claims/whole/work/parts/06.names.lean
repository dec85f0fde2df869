theorem dX6_init_0 : decode cX6_init 0 = .ok (.aload_n 0, 1) := by decide +kernel
theorem dX6_init_1 : decode cX6_init 1 = .ok (.invokespecial 3, 3) := by decide +kernel
theorem dX6_init_4 : decode cX6_init 4 = .ok (.aload_n 0, 1) := by decide +kernel
theorem dX6_init_5 : decode cX6_init 5 = .ok (.bipush 51, 2) := by decide +kernel
theorem dX6_init_7 : decode cX6_init 7 = .ok (.newarray .int, 2) := by decide +kernel
theorem dX6_init_9 : decode cX6_init 9 = .ok (.putfield 9, 3) := by decide +kernel
theorem dX6_init_12 : decode cX6_init 12 = .ok (.aload_n 0, 1) := by decide +kernel
theorem dX6_init_13 : decode cX6_init 13 = .ok (.bipush 51, 2) := by decide +kernel
theorem dX6_init_15 : decode cX6_init 15 = .ok (.newarray .int, 2) := by decide +kernel
theorem dX6_init_17 : decode cX6_init 17 = .ok (.putfield 13, 3) := by decide +kernel
theorem dX6_init_20 : decode cX6_init 20 = .ok (.aload_n 0, 1) := by decide +kernel
theorem dX6_init_21 : decode cX6_init 21 = .ok (.bipush 51, 2) := by decide +kernel
theorem dX6_init_23 : decode cX6_init 23 = .ok (.newarray .int, 2) := by decide +kernel
theorem dX6_init_25 : decode cX6_init 25 = .ok (.putfield 16, 3) := by decide +kernel
theorem dX6_init_28 : decode cX6_init 28 = .ok (.aload_n 0, 1) := by decide +kernel
theorem dX6_init_29 : decode cX6_init 29 = .ok (.bipush 7, 2) := by decide +kernel
theorem dX6_init_31 : decode cX6_init 31 = .ok (.newarray .int, 2) := by decide +kernel
theorem dX6_init_33 : decode cX6_init 33 = .ok (.putfield 19, 3) := by decide +kernel
theorem dX6_init_36 : decode cX6_init 36 = .ok (.aload_n 0, 1) := by decide +kernel
theorem dX6_init_37 : decode cX6_init 37 = .ok (.bipush 120, 2) := by decide +kernel
theorem dX6_init_39 : decode cX6_init 39 = .ok (.newarray .int, 2) := by decide +kernel
theorem dX6_init_41 : decode cX6_init 41 = .ok (.putfield 22, 3) := by decide +kernel
theorem dX6_init_44 : decode cX6_init 44 = .ok (.aload_n 0, 1) := by decide +kernel
theorem dX6_init_45 : decode cX6_init 45 = .ok (.iconst 4, 1) := by decide +kernel
theorem dX6_init_46 : decode cX6_init 46 = .ok (.newarray .int, 2) := by decide +kernel
theorem dX6_init_48 : decode cX6_init 48 = .ok (.putfield 25, 3) := by decide +kernel
theorem dX6_init_51 : decode cX6_init 51 = .ok (.aload_n 0, 1) := by decide +kernel
theorem dX6_init_52 : decode cX6_init 52 = .ok (.iconst 4, 1) := by decide +kernel
theorem dX6_init_53 : decode cX6_init 53 = .ok (.newarray .int, 2) := by decide +kernel
theorem dX6_init_55 : decode cX6_init 55 = .ok (.putfield 28, 3) := by decide +kernel
theorem dX6_init_58 : decode cX6_init 58 = .ok (.aload_n 0, 1) := by decide +kernel
theorem dX6_init_59 : decode cX6_init 59 = .ok (.sipush 160, 3) := by decide +kernel
theorem dX6_init_62 : decode cX6_init 62 = .ok (.newarray .long, 2) := by decide +kernel
theorem dX6_init_64 : decode cX6_init 64 = .ok (.putfield 31, 3) := by decide +kernel
theorem dX6_init_67 : decode cX6_init 67 = .ok (.aload_n 0, 1) := by decide +kernel
theorem dX6_init_68 : decode cX6_init 68 = .ok (.getfield 9, 3) := by decide +kernel
theorem dX6_init_71 : decode cX6_init 71 = .ok (.bipush 9, 2) := by decide +kernel
theorem dX6_init_73 : decode cX6_init 73 = .ok (.iconst 1, 1) := by decide +kernel
theorem dX6_init_74 : decode cX6_init 74 = .ok (.iastore, 1) := by decide +kernel
theorem dX6_init_75 : decode cX6_init 75 = .ok (.aload_n 0, 1) := by decide +kernel
theorem dX6_init_76 : decode cX6_init 76 = .ok (.getfield 9, 3) := by decide +kernel
theorem dX6_init_79 : decode cX6_init 79 = .ok (.bipush 10, 2) := by decide +kernel
theorem dX6_init_81 : decode cX6_init 81 = .ok (.iconst 1, 1) := by decide +kernel
theorem dX6_init_82 : decode cX6_init 82 = .ok (.iastore, 1) := by decide +kernel
theorem dX6_init_83 : decode cX6_init 83 = .ok (.return_, 1) := by decide +kernel
theorem dX6_finds_0 : decode cX6_finds 0 = .ok (.aload_n 0, 1) := by decide +kernel
theorem dX6_finds_1 : decode cX6_finds 1 = .ok (.getfield 19, 3) := by decide +kernel
theorem dX6_finds_4 : decode cX6_finds 4 = .ok (.ldc 35, 2) := by decide +kernel
theorem dX6_finds_6 : decode cX6_finds 6 = .ok (.iload_n 1, 1) := by decide +kernel
theorem dX6_finds_7 : decode cX6_finds 7 = .ok (.isub, 1) := by decide +kernel
theorem dX6_finds_8 : decode cX6_finds 8 = .ok (.dup2, 1) := by decide +kernel
theorem dX6_finds_9 : decode cX6_finds 9 = .ok (.iaload, 1) := by decide +kernel
theorem dX6_finds_10 : decode cX6_finds 10 = .ok (.iconst 1, 1) := by decide +kernel
theorem dX6_finds_11 : decode cX6_finds 11 = .ok (.iadd, 1) := by decide +kernel
theorem dX6_finds_12 : decode cX6_finds 12 = .ok (.iastore, 1) := by decide +kernel
theorem dX6_finds_13 : decode cX6_finds 13 = .ok (.iload_n 1, 1) := by decide +kernel
theorem dX6_finds_14 : decode cX6_finds 14 = .ok (.ireturn, 1) := by decide +kernel
set_option maxRecDepth 20000 in
theorem ggX6_orNone_X6_finds : GoodIn wsX6_orNone wsX6_finds := goodIn_r _ [6, 7, 8, 9, 10, 11, 12, 13, 14, 15, 16, 17, 18, 19, 20, 21, 22, 23, 24] (by decide +kernel) (by decide +kernel)
set_option maxRecDepth 20000 in
theorem gX6_orNone_X6_finds : GoodIn wsX6_orNone (wsV RX6 37 RX6 yX6_finds wsX6_finds) := goodIn_app (goodIn_of _ (by decide +kernel)) ggX6_orNone_X6_finds
theorem dX6_orNone_0 : decode cX6_orNone 0 = .ok (.iload_n 1, 1) := by decide +kernel
theorem dX6_orNone_1 : decode cX6_orNone 1 = .ok (.ifCond .ge 12, 3) := by decide +kernel
theorem dX6_orNone_4 : decode cX6_orNone 4 = .ok (.aload_n 0, 1) := by decide +kernel
theorem dX6_orNone_5 : decode cX6_orNone 5 = .ok (.ldc 36, 2) := by decide +kernel
theorem dX6_orNone_7 : decode cX6_orNone 7 = .ok (.invokevirtual 37, 3) := by decide +kernel
theorem dX6_orNone_10 : decode cX6_orNone 10 = .ok (.goto 4, 3) := by decide +kernel
theorem dX6_orNone_13 : decode cX6_orNone 13 = .ok (.iload_n 1, 1) := by decide +kernel
theorem dX6_orNone_14 : decode cX6_orNone 14 = .ok (.ireturn, 1) := by decide +kernel
theorem dX6_in_0 : decode cX6_in 0 = .ok (.lload_n 0, 1) := by decide +kernel
theorem dX6_in_1 : decode cX6_in 1 = .ok (.iload_n 2, 1) := by decide +kernel
theorem dX6_in_2 : decode cX6_in 2 = .ok (.i2l, 1) := by decide +kernel
theorem dX6_in_3 : decode cX6_in 3 = .ok (.lcmp, 1) := by decide +kernel
theorem dX6_in_4 : decode cX6_in 4 = .ok (.ifCond .lt 14, 3) := by decide +kernel
theorem dX6_in_7 : decode cX6_in 7 = .ok (.lload_n 0, 1) := by decide +kernel
theorem dX6_in_8 : decode cX6_in 8 = .ok (.iload_n 3, 1) := by decide +kernel
theorem dX6_in_9 : decode cX6_in 9 = .ok (.i2l, 1) := by decide +kernel
theorem dX6_in_10 : decode cX6_in 10 = .ok (.lcmp, 1) := by decide +kernel
theorem dX6_in_11 : decode cX6_in 11 = .ok (.ifCond .gt 7, 3) := by decide +kernel
theorem dX6_in_14 : decode cX6_in 14 = .ok (.iconst 1, 1) := by decide +kernel
theorem dX6_in_15 : decode cX6_in 15 = .ok (.goto 4, 3) := by decide +kernel
theorem dX6_in_18 : decode cX6_in 18 = .ok (.iconst 0, 1) := by decide +kernel
theorem dX6_in_19 : decode cX6_in 19 = .ok (.ireturn, 1) := by decide +kernel
theorem dX6_held_0 : decode cX6_held 0 = .ok (.iload_n 0, 1) := by decide +kernel
theorem dX6_held_1 : decode cX6_held 1 = .ok (.iload_n 1, 1) := by decide +kernel
theorem dX6_held_2 : decode cX6_held 2 = .ok (.if_icmp .ge 7, 3) := by decide +kernel
theorem dX6_held_5 : decode cX6_held 5 = .ok (.iload_n 1, 1) := by decide +kernel
theorem dX6_held_6 : decode cX6_held 6 = .ok (.goto 13, 3) := by decide +kernel
theorem dX6_held_9 : decode cX6_held 9 = .ok (.iload_n 0, 1) := by decide +kernel
theorem dX6_held_10 : decode cX6_held 10 = .ok (.iload_n 2, 1) := by decide +kernel
theorem dX6_held_11 : decode cX6_held 11 = .ok (.if_icmp .le 7, 3) := by decide +kernel
theorem dX6_held_14 : decode cX6_held 14 = .ok (.iload_n 2, 1) := by decide +kernel
theorem dX6_held_15 : decode cX6_held 15 = .ok (.goto 4, 3) := by decide +kernel
theorem dX6_held_18 : decode cX6_held 18 = .ok (.iload_n 0, 1) := by decide +kernel
theorem dX6_held_19 : decode cX6_held 19 = .ok (.ireturn, 1) := by decide +kernel
theorem dX6_copyAll_0 : decode cX6_copyAll 0 = .ok (.iconst 0, 1) := by decide +kernel
theorem dX6_copyAll_1 : decode cX6_copyAll 1 = .ok (.istore_n 2, 1) := by decide +kernel
theorem dX6_copyAll_2 : decode cX6_copyAll 2 = .ok (.iload_n 2, 1) := by decide +kernel
theorem dX6_copyAll_3 : decode cX6_copyAll 3 = .ok (.bipush 51, 2) := by decide +kernel
theorem dX6_copyAll_5 : decode cX6_copyAll 5 = .ok (.if_icmp .ge 15, 3) := by decide +kernel
theorem dX6_copyAll_8 : decode cX6_copyAll 8 = .ok (.aload_n 1, 1) := by decide +kernel
theorem dX6_copyAll_9 : decode cX6_copyAll 9 = .ok (.iload_n 2, 1) := by decide +kernel
theorem dX6_copyAll_10 : decode cX6_copyAll 10 = .ok (.aload_n 0, 1) := by decide +kernel
theorem dX6_copyAll_11 : decode cX6_copyAll 11 = .ok (.iload_n 2, 1) := by decide +kernel
theorem dX6_copyAll_12 : decode cX6_copyAll 12 = .ok (.iaload, 1) := by decide +kernel
theorem dX6_copyAll_13 : decode cX6_copyAll 13 = .ok (.iastore, 1) := by decide +kernel
theorem dX6_copyAll_14 : decode cX6_copyAll 14 = .ok (.iinc 2 1, 3) := by decide +kernel
theorem dX6_copyAll_17 : decode cX6_copyAll 17 = .ok (.goto (-15), 3) := by decide +kernel
theorem dX6_copyAll_20 : decode cX6_copyAll 20 = .ok (.return_, 1) := by decide +kernel
theorem dX6_bits_0 : decode cX6_bits 0 = .ok (.iconst 0, 1) := by decide +kernel
theorem dX6_bits_1 : decode cX6_bits 1 = .ok (.istore_n 1, 1) := by decide +kernel
theorem dX6_bits_2 : decode cX6_bits 2 = .ok (.iload_n 0, 1) := by decide +kernel
theorem dX6_bits_3 : decode cX6_bits 3 = .ok (.istore_n 2, 1) := by decide +kernel
theorem dX6_bits_4 : decode cX6_bits 4 = .ok (.iload_n 2, 1) := by decide +kernel
theorem dX6_bits_5 : decode cX6_bits 5 = .ok (.ifCond .eq 15, 3) := by decide +kernel
theorem dX6_bits_8 : decode cX6_bits 8 = .ok (.iinc 1 1, 3) := by decide +kernel
theorem dX6_bits_11 : decode cX6_bits 11 = .ok (.iload_n 2, 1) := by decide +kernel
theorem dX6_bits_12 : decode cX6_bits 12 = .ok (.iload_n 2, 1) := by decide +kernel
theorem dX6_bits_13 : decode cX6_bits 13 = .ok (.iconst 1, 1) := by decide +kernel
theorem dX6_bits_14 : decode cX6_bits 14 = .ok (.isub, 1) := by decide +kernel
theorem dX6_bits_15 : decode cX6_bits 15 = .ok (.iand, 1) := by decide +kernel
theorem dX6_bits_16 : decode cX6_bits 16 = .ok (.istore_n 2, 1) := by decide +kernel
theorem dX6_bits_17 : decode cX6_bits 17 = .ok (.goto (-13), 3) := by decide +kernel
theorem dX6_bits_20 : decode cX6_bits 20 = .ok (.iload_n 1, 1) := by decide +kernel
theorem dX6_bits_21 : decode cX6_bits 21 = .ok (.ireturn, 1) := by decide +kernel
theorem dX6_becomes_0 : decode cX6_becomes 0 = .ok (.aload_n 0, 1) := by decide +kernel
theorem dX6_becomes_1 : decode cX6_becomes 1 = .ok (.getfield 9, 3) := by decide +kernel
theorem dX6_becomes_4 : decode cX6_becomes 4 = .ok (.iload_n 1, 1) := by decide +kernel
theorem dX6_becomes_5 : decode cX6_becomes 5 = .ok (.iaload, 1) := by decide +kernel
theorem dX6_becomes_6 : decode cX6_becomes 6 = .ok (.istore_n 3, 1) := by decide +kernel
theorem dX6_becomes_7 : decode cX6_becomes 7 = .ok (.aload_n 0, 1) := by decide +kernel
theorem dX6_becomes_8 : decode cX6_becomes 8 = .ok (.getfield 9, 3) := by decide +kernel
theorem dX6_becomes_11 : decode cX6_becomes 11 = .ok (.iload_n 1, 1) := by decide +kernel
theorem dX6_becomes_12 : decode cX6_becomes 12 = .ok (.iload_n 2, 1) := by decide +kernel
theorem dX6_becomes_13 : decode cX6_becomes 13 = .ok (.iastore, 1) := by decide +kernel
theorem dX6_becomes_14 : decode cX6_becomes 14 = .ok (.iload_n 3, 1) := by decide +kernel
theorem dX6_becomes_15 : decode cX6_becomes 15 = .ok (.ireturn, 1) := by decide +kernel
set_option maxRecDepth 20000 in
theorem ggX6_isPart_X6_in : GoodIn wsX6_isPart wsX6_in := goodIn_r _ [5] (by decide +kernel) (by decide +kernel)
set_option maxRecDepth 20000 in
theorem gX6_isPart_X6_in : GoodIn wsX6_isPart (va_wsS RX6 41 yX6_in wsX6_in) := goodIn_app (goodIn_of _ (by decide +kernel)) ggX6_isPart_X6_in
theorem dX6_isPart_0 : decode cX6_isPart 0 = .ok (.iload_n 1, 1) := by decide +kernel
theorem dX6_isPart_1 : decode cX6_isPart 1 = .ok (.i2l, 1) := by decide +kernel
theorem dX6_isPart_2 : decode cX6_isPart 2 = .ok (.iconst 0, 1) := by decide +kernel
theorem dX6_isPart_3 : decode cX6_isPart 3 = .ok (.aload_n 0, 1) := by decide +kernel
theorem dX6_isPart_4 : decode cX6_isPart 4 = .ok (.getfield 9, 3) := by decide +kernel
theorem dX6_isPart_7 : decode cX6_isPart 7 = .ok (.iconst 3, 1) := by decide +kernel
theorem dX6_isPart_8 : decode cX6_isPart 8 = .ok (.iaload, 1) := by decide +kernel
theorem dX6_isPart_9 : decode cX6_isPart 9 = .ok (.iconst 1, 1) := by decide +kernel
theorem dX6_isPart_10 : decode cX6_isPart 10 = .ok (.isub, 1) := by decide +kernel
theorem dX6_isPart_11 : decode cX6_isPart 11 = .ok (.invokestatic 41, 3) := by decide +kernel
theorem dX6_isPart_14 : decode cX6_isPart 14 = .ok (.ireturn, 1) := by decide +kernel
theorem dX6_it_0 : decode cX6_it 0 = .ok (.aload_n 0, 1) := by decide +kernel
theorem dX6_it_1 : decode cX6_it 1 = .ok (.getfield 9, 3) := by decide +kernel
theorem dX6_it_4 : decode cX6_it 4 = .ok (.bipush 11, 2) := by decide +kernel
theorem dX6_it_6 : decode cX6_it 6 = .ok (.iconst 5, 1) := by decide +kernel
theorem dX6_it_7 : decode cX6_it 7 = .ok (.iload_n 1, 1) := by decide +kernel
theorem dX6_it_8 : decode cX6_it 8 = .ok (.imul, 1) := by decide +kernel
theorem dX6_it_9 : decode cX6_it 9 = .ok (.iadd, 1) := by decide +kernel
theorem dX6_it_10 : decode cX6_it 10 = .ok (.iload_n 2, 1) := by decide +kernel
theorem dX6_it_11 : decode cX6_it 11 = .ok (.iadd, 1) := by decide +kernel
theorem dX6_it_12 : decode cX6_it 12 = .ok (.iaload, 1) := by decide +kernel
theorem dX6_it_13 : decode cX6_it 13 = .ok (.ireturn, 1) := by decide +kernel
theorem dX6_put_0 : decode cX6_put 0 = .ok (.aload_n 0, 1) := by decide +kernel
theorem dX6_put_1 : decode cX6_put 1 = .ok (.getfield 9, 3) := by decide +kernel
theorem dX6_put_4 : decode cX6_put 4 = .ok (.bipush 11, 2) := by decide +kernel
theorem dX6_put_6 : decode cX6_put 6 = .ok (.iconst 5, 1) := by decide +kernel
theorem dX6_put_7 : decode cX6_put 7 = .ok (.iload_n 1, 1) := by decide +kernel
theorem dX6_put_8 : decode cX6_put 8 = .ok (.imul, 1) := by decide +kernel
theorem dX6_put_9 : decode cX6_put 9 = .ok (.iadd, 1) := by decide +kernel
theorem dX6_put_10 : decode cX6_put 10 = .ok (.iload_n 2, 1) := by decide +kernel
theorem dX6_put_11 : decode cX6_put 11 = .ok (.iadd, 1) := by decide +kernel
theorem dX6_put_12 : decode cX6_put 12 = .ok (.iload_n 3, 1) := by decide +kernel
theorem dX6_put_13 : decode cX6_put 13 = .ok (.iastore, 1) := by decide +kernel
theorem dX6_put_14 : decode cX6_put 14 = .ok (.return_, 1) := by decide +kernel
theorem dX6_isHoliday_0 : decode cX6_isHoliday 0 = .ok (.aload_n 0, 1) := by decide +kernel
theorem dX6_isHoliday_1 : decode cX6_isHoliday 1 = .ok (.getfield 9, 3) := by decide +kernel
theorem dX6_isHoliday_4 : decode cX6_isHoliday 4 = .ok (.iconst 4, 1) := by decide +kernel
theorem dX6_isHoliday_5 : decode cX6_isHoliday 5 = .ok (.aload_n 0, 1) := by decide +kernel
theorem dX6_isHoliday_6 : decode cX6_isHoliday 6 = .ok (.getfield 9, 3) := by decide +kernel
theorem dX6_isHoliday_9 : decode cX6_isHoliday 9 = .ok (.iconst 0, 1) := by decide +kernel
theorem dX6_isHoliday_10 : decode cX6_isHoliday 10 = .ok (.iaload, 1) := by decide +kernel
theorem dX6_isHoliday_11 : decode cX6_isHoliday 11 = .ok (.bipush 7, 2) := by decide +kernel
theorem dX6_isHoliday_13 : decode cX6_isHoliday 13 = .ok (.irem, 1) := by decide +kernel
theorem dX6_isHoliday_14 : decode cX6_isHoliday 14 = .ok (.iadd, 1) := by decide +kernel
theorem dX6_isHoliday_15 : decode cX6_isHoliday 15 = .ok (.iaload, 1) := by decide +kernel
theorem dX6_isHoliday_16 : decode cX6_isHoliday 16 = .ok (.iconst 1, 1) := by decide +kernel
theorem dX6_isHoliday_17 : decode cX6_isHoliday 17 = .ok (.if_icmp .ne 7, 3) := by decide +kernel
theorem dX6_isHoliday_20 : decode cX6_isHoliday 20 = .ok (.iconst 1, 1) := by decide +kernel
theorem dX6_isHoliday_21 : decode cX6_isHoliday 21 = .ok (.goto 4, 3) := by decide +kernel
theorem dX6_isHoliday_24 : decode cX6_isHoliday 24 = .ok (.iconst 0, 1) := by decide +kernel
theorem dX6_isHoliday_25 : decode cX6_isHoliday 25 = .ok (.ireturn, 1) := by decide +kernel
set_option maxRecDepth 20000 in
theorem ggX6_needs_X6_it : GoodIn wsX6_needs wsX6_it := goodIn_r _ [5, 6, 7, 8, 9, 10, 11, 12, 13, 14, 15, 16, 17, 18, 19, 20, 21, 22] (by decide +kernel) (by decide +kernel)
set_option maxRecDepth 20000 in
theorem gX6_needs_X6_it : GoodIn wsX6_needs (wsV RX6 45 RX6 yX6_it wsX6_it) := goodIn_app (goodIn_of _ (by decide +kernel)) ggX6_needs_X6_it
theorem dX6_needs_0 : decode cX6_needs 0 = .ok (.aload_n 0, 1) := by decide +kernel
theorem dX6_needs_1 : decode cX6_needs 1 = .ok (.iload_n 1, 1) := by decide +kernel
theorem dX6_needs_2 : decode cX6_needs 2 = .ok (.iconst 1, 1) := by decide +kernel
theorem dX6_needs_3 : decode cX6_needs 3 = .ok (.invokevirtual 45, 3) := by decide +kernel
theorem dX6_needs_6 : decode cX6_needs 6 = .ok (.istore_n 2, 1) := by decide +kernel
theorem dX6_needs_7 : decode cX6_needs 7 = .ok (.aload_n 0, 1) := by decide +kernel
theorem dX6_needs_8 : decode cX6_needs 8 = .ok (.iload_n 1, 1) := by decide +kernel
theorem dX6_needs_9 : decode cX6_needs 9 = .ok (.iconst 0, 1) := by decide +kernel
theorem dX6_needs_10 : decode cX6_needs 10 = .ok (.invokevirtual 45, 3) := by decide +kernel
theorem dX6_needs_13 : decode cX6_needs 13 = .ok (.tableswitch 53 1 5 #[35, 53, 39, 41, 47], 35) := by decide +kernel
theorem dX6_needs_48 : decode cX6_needs 48 = .ok (.iconst 2, 1) := by decide +kernel
theorem dX6_needs_49 : decode cX6_needs 49 = .ok (.iload_n 2, 1) := by decide +kernel
theorem dX6_needs_50 : decode cX6_needs 50 = .ok (.imul, 1) := by decide +kernel
theorem dX6_needs_51 : decode cX6_needs 51 = .ok (.ireturn, 1) := by decide +kernel
theorem dX6_needs_52 : decode cX6_needs 52 = .ok (.iconst 1, 1) := by decide +kernel
theorem dX6_needs_53 : decode cX6_needs 53 = .ok (.ireturn, 1) := by decide +kernel
theorem dX6_needs_54 : decode cX6_needs 54 = .ok (.iconst 2, 1) := by decide +kernel
theorem dX6_needs_55 : decode cX6_needs 55 = .ok (.iload_n 2, 1) := by decide +kernel
theorem dX6_needs_56 : decode cX6_needs 56 = .ok (.imul, 1) := by decide +kernel
theorem dX6_needs_57 : decode cX6_needs 57 = .ok (.iconst 5, 1) := by decide +kernel
theorem dX6_needs_58 : decode cX6_needs 58 = .ok (.iadd, 1) := by decide +kernel
theorem dX6_needs_59 : decode cX6_needs 59 = .ok (.ireturn, 1) := by decide +kernel
theorem dX6_needs_60 : decode cX6_needs 60 = .ok (.iload_n 2, 1) := by decide +kernel
theorem dX6_needs_61 : decode cX6_needs 61 = .ok (.iload_n 2, 1) := by decide +kernel
theorem dX6_needs_62 : decode cX6_needs 62 = .ok (.iconst 2, 1) := by decide +kernel
theorem dX6_needs_63 : decode cX6_needs 63 = .ok (.idiv, 1) := by decide +kernel
theorem dX6_needs_64 : decode cX6_needs 64 = .ok (.iadd, 1) := by decide +kernel
theorem dX6_needs_65 : decode cX6_needs 65 = .ok (.ireturn, 1) := by decide +kernel
theorem dX6_needs_66 : decode cX6_needs 66 = .ok (.iload_n 2, 1) := by decide +kernel
theorem dX6_needs_67 : decode cX6_needs 67 = .ok (.ireturn, 1) := by decide +kernel
set_option maxRecDepth 20000 in
theorem ggX6_isDone_X6_it : GoodIn wsX6_isDone wsX6_it := goodIn_r _ [5, 6, 11, 12, 13, 14, 15, 16, 17, 18, 19, 20, 21, 22, 23, 24, 25, 26] (by decide +kernel) (by decide +kernel)
set_option maxRecDepth 20000 in
theorem gX6_isDone_X6_it : GoodIn wsX6_isDone (wsV RX6 45 RX6 yX6_it wsX6_it) := goodIn_app (goodIn_of _ (by decide +kernel)) ggX6_isDone_X6_it
set_option maxRecDepth 20000 in
theorem ggX6_isDone_X6_needs : GoodIn wsX6_isDone wsX6_needs := goodIn_r _ [10, 1, 2, 3, 4, 5, 6, 11, 12, 13, 14, 15, 16, 17, 18, 19, 20, 21, 22, 23, 24, 25, 26] (by decide +kernel) (by decide +kernel)
set_option maxRecDepth 20000 in
theorem gX6_isDone_X6_needs : GoodIn wsX6_isDone (wsV RX6 49 RX6 yX6_needs wsX6_needs) := goodIn_app (goodIn_of _ (by decide +kernel)) ggX6_isDone_X6_needs
theorem dX6_isDone_0 : decode cX6_isDone 0 = .ok (.aload_n 0, 1) := by decide +kernel
theorem dX6_isDone_1 : decode cX6_isDone 1 = .ok (.iload_n 1, 1) := by decide +kernel
theorem dX6_isDone_2 : decode cX6_isDone 2 = .ok (.iconst 2, 1) := by decide +kernel
theorem dX6_isDone_3 : decode cX6_isDone 3 = .ok (.invokevirtual 45, 3) := by decide +kernel
theorem dX6_isDone_6 : decode cX6_isDone 6 = .ok (.aload_n 0, 1) := by decide +kernel
theorem dX6_isDone_7 : decode cX6_isDone 7 = .ok (.iload_n 1, 1) := by decide +kernel
theorem dX6_isDone_8 : decode cX6_isDone 8 = .ok (.invokevirtual 49, 3) := by decide +kernel
theorem dX6_isDone_11 : decode cX6_isDone 11 = .ok (.if_icmp .lt 7, 3) := by decide +kernel
theorem dX6_isDone_14 : decode cX6_isDone 14 = .ok (.iconst 1, 1) := by decide +kernel
theorem dX6_isDone_15 : decode cX6_isDone 15 = .ok (.goto 4, 3) := by decide +kernel
theorem dX6_isDone_18 : decode cX6_isDone 18 = .ok (.iconst 0, 1) := by decide +kernel
theorem dX6_isDone_19 : decode cX6_isDone 19 = .ok (.ireturn, 1) := by decide +kernel
set_option maxRecDepth 20000 in
theorem ggX6_gives_X6_isHoliday : GoodIn wsX6_gives wsX6_isHoliday := goodIn_r _ [6, 1, 11, 12, 13, 14, 15, 16, 17, 18, 19, 20, 21, 22, 23, 24, 25, 26] (by decide +kernel) (by decide +kernel)
set_option maxRecDepth 20000 in
theorem gX6_gives_X6_isHoliday : GoodIn wsX6_gives (wsV RX6 52 RX6 yX6_isHoliday wsX6_isHoliday) := goodIn_app (goodIn_of _ (by decide +kernel)) ggX6_gives_X6_isHoliday
set_option maxRecDepth 20000 in
theorem ggX6_gives_X6_it : GoodIn wsX6_gives wsX6_it := goodIn_r _ [10, 1, 11, 12, 13, 14, 15, 16, 17, 18, 19, 20, 21, 22, 23, 24, 25, 26] (by decide +kernel) (by decide +kernel)
set_option maxRecDepth 20000 in
theorem gX6_gives_X6_it : GoodIn wsX6_gives (wsV RX6 45 RX6 yX6_it wsX6_it) := goodIn_app (goodIn_of _ (by decide +kernel)) ggX6_gives_X6_it
theorem dX6_gives_0 : decode cX6_gives 0 = .ok (.iconst 4, 1) := by decide +kernel
theorem dX6_gives_1 : decode cX6_gives 1 = .ok (.aload_n 0, 1) := by decide +kernel
theorem dX6_gives_2 : decode cX6_gives 2 = .ok (.getfield 9, 3) := by decide +kernel
theorem dX6_gives_5 : decode cX6_gives 5 = .ok (.iconst 1, 1) := by decide +kernel
theorem dX6_gives_6 : decode cX6_gives 6 = .ok (.iaload, 1) := by decide +kernel
theorem dX6_gives_7 : decode cX6_gives 7 = .ok (.bipush 30, 2) := by decide +kernel
theorem dX6_gives_9 : decode cX6_gives 9 = .ok (.idiv, 1) := by decide +kernel
theorem dX6_gives_10 : decode cX6_gives 10 = .ok (.isub, 1) := by decide +kernel
theorem dX6_gives_11 : decode cX6_gives 11 = .ok (.istore_n 2, 1) := by decide +kernel
theorem dX6_gives_12 : decode cX6_gives 12 = .ok (.aload_n 0, 1) := by decide +kernel
theorem dX6_gives_13 : decode cX6_gives 13 = .ok (.invokevirtual 52, 3) := by decide +kernel
theorem dX6_gives_16 : decode cX6_gives 16 = .ok (.ifCond .eq 9, 3) := by decide +kernel
theorem dX6_gives_19 : decode cX6_gives 19 = .ok (.iload_n 2, 1) := by decide +kernel
theorem dX6_gives_20 : decode cX6_gives 20 = .ok (.iconst 3, 1) := by decide +kernel
theorem dX6_gives_21 : decode cX6_gives 21 = .ok (.iadd, 1) := by decide +kernel
theorem dX6_gives_22 : decode cX6_gives 22 = .ok (.goto 4, 3) := by decide +kernel
theorem dX6_gives_25 : decode cX6_gives 25 = .ok (.iload_n 2, 1) := by decide +kernel
theorem dX6_gives_26 : decode cX6_gives 26 = .ok (.istore_n 3, 1) := by decide +kernel
theorem dX6_gives_27 : decode cX6_gives 27 = .ok (.iload_n 2, 1) := by decide +kernel
theorem dX6_gives_28 : decode cX6_gives 28 = .ok (.istore 4, 2) := by decide +kernel
theorem dX6_gives_30 : decode cX6_gives 30 = .ok (.aload_n 0, 1) := by decide +kernel
theorem dX6_gives_31 : decode cX6_gives 31 = .ok (.iload_n 1, 1) := by decide +kernel
theorem dX6_gives_32 : decode cX6_gives 32 = .ok (.iconst 0, 1) := by decide +kernel
theorem dX6_gives_33 : decode cX6_gives 33 = .ok (.invokevirtual 45, 3) := by decide +kernel
theorem dX6_gives_36 : decode cX6_gives 36 = .ok (.tableswitch 87 1 5 #[36, 42, 50, 56, 64], 36) := by decide +kernel
theorem dX6_gives_72 : decode cX6_gives 72 = .ok (.iload_n 3, 1) := by decide +kernel
theorem dX6_gives_73 : decode cX6_gives 73 = .ok (.istore 4, 2) := by decide +kernel
theorem dX6_gives_75 : decode cX6_gives 75 = .ok (.goto 48, 3) := by decide +kernel
theorem dX6_gives_78 : decode cX6_gives 78 = .ok (.iload_n 2, 1) := by decide +kernel
theorem dX6_gives_79 : decode cX6_gives 79 = .ok (.iconst 1, 1) := by decide +kernel
theorem dX6_gives_80 : decode cX6_gives 80 = .ok (.iadd, 1) := by decide +kernel
theorem dX6_gives_81 : decode cX6_gives 81 = .ok (.istore 4, 2) := by decide +kernel
theorem dX6_gives_83 : decode cX6_gives 83 = .ok (.goto 40, 3) := by decide +kernel
theorem dX6_gives_86 : decode cX6_gives 86 = .ok (.iconst 1, 1) := by decide +kernel
theorem dX6_gives_87 : decode cX6_gives 87 = .ok (.istore 4, 2) := by decide +kernel
theorem dX6_gives_89 : decode cX6_gives 89 = .ok (.goto 34, 3) := by decide +kernel
theorem dX6_gives_92 : decode cX6_gives 92 = .ok (.iload_n 3, 1) := by decide +kernel
theorem dX6_gives_93 : decode cX6_gives 93 = .ok (.iconst 1, 1) := by decide +kernel
theorem dX6_gives_94 : decode cX6_gives 94 = .ok (.isub, 1) := by decide +kernel
theorem dX6_gives_95 : decode cX6_gives 95 = .ok (.istore 4, 2) := by decide +kernel
theorem dX6_gives_97 : decode cX6_gives 97 = .ok (.goto 26, 3) := by decide +kernel
theorem dX6_gives_100 : decode cX6_gives 100 = .ok (.aload_n 0, 1) := by decide +kernel
theorem dX6_gives_101 : decode cX6_gives 101 = .ok (.getfield 9, 3) := by decide +kernel
theorem dX6_gives_104 : decode cX6_gives 104 = .ok (.iconst 1, 1) := by decide +kernel
theorem dX6_gives_105 : decode cX6_gives 105 = .ok (.iaload, 1) := by decide +kernel
theorem dX6_gives_106 : decode cX6_gives 106 = .ok (.bipush 80, 2) := by decide +kernel
theorem dX6_gives_108 : decode cX6_gives 108 = .ok (.if_icmp .le 7, 3) := by decide +kernel
theorem dX6_gives_111 : decode cX6_gives 111 = .ok (.iconst 0, 1) := by decide +kernel
theorem dX6_gives_112 : decode cX6_gives 112 = .ok (.goto 6, 3) := by decide +kernel
theorem dX6_gives_115 : decode cX6_gives 115 = .ok (.iload_n 2, 1) := by decide +kernel
theorem dX6_gives_116 : decode cX6_gives 116 = .ok (.iconst 1, 1) := by decide +kernel
theorem dX6_gives_117 : decode cX6_gives 117 = .ok (.iadd, 1) := by decide +kernel
theorem dX6_gives_118 : decode cX6_gives 118 = .ok (.istore 4, 2) := by decide +kernel
theorem dX6_gives_120 : decode cX6_gives 120 = .ok (.goto 3, 3) := by decide +kernel
theorem dX6_gives_123 : decode cX6_gives 123 = .ok (.iload 4, 2) := by decide +kernel
theorem dX6_gives_125 : decode cX6_gives 125 = .ok (.ifCond .ge 7, 3) := by decide +kernel
theorem dX6_gives_128 : decode cX6_gives 128 = .ok (.iconst 0, 1) := by decide +kernel
theorem dX6_gives_129 : decode cX6_gives 129 = .ok (.goto 5, 3) := by decide +kernel
theorem dX6_gives_132 : decode cX6_gives 132 = .ok (.iload 4, 2) := by decide +kernel
theorem dX6_gives_134 : decode cX6_gives 134 = .ok (.ireturn, 1) := by decide +kernel
set_option maxRecDepth 20000 in
theorem ggX6_isAnotherLeft_X6_isDone : GoodIn wsX6_isAnotherLeft wsX6_isDone := goodIn_r _ [6, 7, 8, 9, 5, 10, 1, 11, 12, 13, 14, 15, 16, 17, 18, 19, 20, 21, 22, 23, 24, 25, 26, 27, 28, 29, 30] (by decide +kernel) (by decide +kernel)
set_option maxRecDepth 20000 in
theorem gX6_isAnotherLeft_X6_isDone : GoodIn wsX6_isAnotherLeft (wsV RX6 56 RX6 yX6_isDone wsX6_isDone) := goodIn_app (goodIn_of _ (by decide +kernel)) ggX6_isAnotherLeft_X6_isDone
theorem dX6_isAnotherLeft_0 : decode cX6_isAnotherLeft 0 = .ok (.iconst 0, 1) := by decide +kernel
theorem dX6_isAnotherLeft_1 : decode cX6_isAnotherLeft 1 = .ok (.istore_n 2, 1) := by decide +kernel
theorem dX6_isAnotherLeft_2 : decode cX6_isAnotherLeft 2 = .ok (.iconst 0, 1) := by decide +kernel
theorem dX6_isAnotherLeft_3 : decode cX6_isAnotherLeft 3 = .ok (.istore_n 3, 1) := by decide +kernel
theorem dX6_isAnotherLeft_4 : decode cX6_isAnotherLeft 4 = .ok (.iload_n 3, 1) := by decide +kernel
theorem dX6_isAnotherLeft_5 : decode cX6_isAnotherLeft 5 = .ok (.aload_n 0, 1) := by decide +kernel
theorem dX6_isAnotherLeft_6 : decode cX6_isAnotherLeft 6 = .ok (.getfield 9, 3) := by decide +kernel
theorem dX6_isAnotherLeft_9 : decode cX6_isAnotherLeft 9 = .ok (.iconst 3, 1) := by decide +kernel
theorem dX6_isAnotherLeft_10 : decode cX6_isAnotherLeft 10 = .ok (.iaload, 1) := by decide +kernel
theorem dX6_isAnotherLeft_11 : decode cX6_isAnotherLeft 11 = .ok (.if_icmp .ge 32, 3) := by decide +kernel
theorem dX6_isAnotherLeft_14 : decode cX6_isAnotherLeft 14 = .ok (.iload_n 2, 1) := by decide +kernel
theorem dX6_isAnotherLeft_15 : decode cX6_isAnotherLeft 15 = .ok (.ifCond .ne 16, 3) := by decide +kernel
theorem dX6_isAnotherLeft_18 : decode cX6_isAnotherLeft 18 = .ok (.iload_n 3, 1) := by decide +kernel
theorem dX6_isAnotherLeft_19 : decode cX6_isAnotherLeft 19 = .ok (.iload_n 1, 1) := by decide +kernel
theorem dX6_isAnotherLeft_20 : decode cX6_isAnotherLeft 20 = .ok (.if_icmp .eq 15, 3) := by decide +kernel
theorem dX6_isAnotherLeft_23 : decode cX6_isAnotherLeft 23 = .ok (.aload_n 0, 1) := by decide +kernel
theorem dX6_isAnotherLeft_24 : decode cX6_isAnotherLeft 24 = .ok (.iload_n 3, 1) := by decide +kernel
theorem dX6_isAnotherLeft_25 : decode cX6_isAnotherLeft 25 = .ok (.invokevirtual 56, 3) := by decide +kernel
theorem dX6_isAnotherLeft_28 : decode cX6_isAnotherLeft 28 = .ok (.ifCond .ne 7, 3) := by decide +kernel
theorem dX6_isAnotherLeft_31 : decode cX6_isAnotherLeft 31 = .ok (.iconst 1, 1) := by decide +kernel
theorem dX6_isAnotherLeft_32 : decode cX6_isAnotherLeft 32 = .ok (.goto 4, 3) := by decide +kernel
theorem dX6_isAnotherLeft_35 : decode cX6_isAnotherLeft 35 = .ok (.iconst 0, 1) := by decide +kernel
theorem dX6_isAnotherLeft_36 : decode cX6_isAnotherLeft 36 = .ok (.istore_n 2, 1) := by decide +kernel
theorem dX6_isAnotherLeft_37 : decode cX6_isAnotherLeft 37 = .ok (.iinc 3 1, 3) := by decide +kernel
theorem dX6_isAnotherLeft_40 : decode cX6_isAnotherLeft 40 = .ok (.goto (-36), 3) := by decide +kernel
theorem dX6_isAnotherLeft_43 : decode cX6_isAnotherLeft 43 = .ok (.iload_n 2, 1) := by decide +kernel
theorem dX6_isAnotherLeft_44 : decode cX6_isAnotherLeft 44 = .ok (.ireturn, 1) := by decide +kernel
set_option maxRecDepth 20000 in
theorem ggX6_calls_X6_it : GoodIn wsX6_calls wsX6_it := goodIn_r _ [6, 1, 19, 20, 21, 22, 23, 24, 25, 26, 27, 28, 29, 30, 31, 32, 33, 34] (by decide +kernel) (by decide +kernel)
set_option maxRecDepth 20000 in
theorem gX6_calls_X6_it : GoodIn wsX6_calls (wsV RX6 45 RX6 yX6_it wsX6_it) := goodIn_app (goodIn_of _ (by decide +kernel)) ggX6_calls_X6_it
set_option maxRecDepth 20000 in
theorem ggX6_calls_X6_isAnotherLeft : GoodIn wsX6_calls wsX6_isAnotherLeft := goodIn_r _ [10, 1, 11, 12, 13, 5, 14, 2, 3, 4, 6, 15, 16, 17, 18, 19, 20, 21, 22, 23, 24, 25, 26, 27, 28, 29, 30, 31, 32, 33, 34] (by decide +kernel) (by decide +kernel)
set_option maxRecDepth 20000 in
theorem gX6_calls_X6_isAnotherLeft : GoodIn wsX6_calls (wsV RX6 60 RX6 yX6_isAnotherLeft wsX6_isAnotherLeft) := goodIn_app (goodIn_of _ (by decide +kernel)) ggX6_calls_X6_isAnotherLeft
theorem dX6_calls_0 : decode cX6_calls 0 = .ok (.bipush 50, 2) := by decide +kernel
theorem dX6_calls_2 : decode cX6_calls 2 = .ok (.aload_n 0, 1) := by decide +kernel
theorem dX6_calls_3 : decode cX6_calls 3 = .ok (.getfield 9, 3) := by decide +kernel
theorem dX6_calls_6 : decode cX6_calls 6 = .ok (.iconst 0, 1) := by decide +kernel
theorem dX6_calls_7 : decode cX6_calls 7 = .ok (.iaload, 1) := by decide +kernel
theorem dX6_calls_8 : decode cX6_calls 8 = .ok (.iadd, 1) := by decide +kernel
theorem dX6_calls_9 : decode cX6_calls 9 = .ok (.aload_n 0, 1) := by decide +kernel
theorem dX6_calls_10 : decode cX6_calls 10 = .ok (.iload_n 1, 1) := by decide +kernel
theorem dX6_calls_11 : decode cX6_calls 11 = .ok (.iconst 3, 1) := by decide +kernel
theorem dX6_calls_12 : decode cX6_calls 12 = .ok (.invokevirtual 45, 3) := by decide +kernel
theorem dX6_calls_15 : decode cX6_calls 15 = .ok (.isub, 1) := by decide +kernel
theorem dX6_calls_16 : decode cX6_calls 16 = .ok (.istore_n 2, 1) := by decide +kernel
theorem dX6_calls_17 : decode cX6_calls 17 = .ok (.iload_n 2, 1) := by decide +kernel
theorem dX6_calls_18 : decode cX6_calls 18 = .ok (.istore_n 3, 1) := by decide +kernel
theorem dX6_calls_19 : decode cX6_calls 19 = .ok (.aload_n 0, 1) := by decide +kernel
theorem dX6_calls_20 : decode cX6_calls 20 = .ok (.iload_n 1, 1) := by decide +kernel
theorem dX6_calls_21 : decode cX6_calls 21 = .ok (.iconst 0, 1) := by decide +kernel
theorem dX6_calls_22 : decode cX6_calls 22 = .ok (.invokevirtual 45, 3) := by decide +kernel
theorem dX6_calls_25 : decode cX6_calls 25 = .ok (.tableswitch 106 1 5 #[35, 47, 54, 60, 87], 35) := by decide +kernel
theorem dX6_calls_60 : decode cX6_calls 60 = .ok (.iload_n 2, 1) := by decide +kernel
theorem dX6_calls_61 : decode cX6_calls 61 = .ok (.aload_n 0, 1) := by decide +kernel
theorem dX6_calls_62 : decode cX6_calls 62 = .ok (.iload_n 1, 1) := by decide +kernel
theorem dX6_calls_63 : decode cX6_calls 63 = .ok (.iconst 1, 1) := by decide +kernel
theorem dX6_calls_64 : decode cX6_calls 64 = .ok (.invokevirtual 45, 3) := by decide +kernel
theorem dX6_calls_67 : decode cX6_calls 67 = .ok (.iadd, 1) := by decide +kernel
theorem dX6_calls_68 : decode cX6_calls 68 = .ok (.istore_n 3, 1) := by decide +kernel
theorem dX6_calls_69 : decode cX6_calls 69 = .ok (.goto 62, 3) := by decide +kernel
theorem dX6_calls_72 : decode cX6_calls 72 = .ok (.iload_n 2, 1) := by decide +kernel
theorem dX6_calls_73 : decode cX6_calls 73 = .ok (.iconst 5, 1) := by decide +kernel
theorem dX6_calls_74 : decode cX6_calls 74 = .ok (.isub, 1) := by decide +kernel
theorem dX6_calls_75 : decode cX6_calls 75 = .ok (.istore_n 3, 1) := by decide +kernel
theorem dX6_calls_76 : decode cX6_calls 76 = .ok (.goto 55, 3) := by decide +kernel
theorem dX6_calls_79 : decode cX6_calls 79 = .ok (.bipush 60, 2) := by decide +kernel
theorem dX6_calls_81 : decode cX6_calls 81 = .ok (.istore_n 3, 1) := by decide +kernel
theorem dX6_calls_82 : decode cX6_calls 82 = .ok (.goto 49, 3) := by decide +kernel
theorem dX6_calls_85 : decode cX6_calls 85 = .ok (.aload_n 0, 1) := by decide +kernel
theorem dX6_calls_86 : decode cX6_calls 86 = .ok (.getfield 9, 3) := by decide +kernel
theorem dX6_calls_89 : decode cX6_calls 89 = .ok (.iconst 1, 1) := by decide +kernel
theorem dX6_calls_90 : decode cX6_calls 90 = .ok (.iaload, 1) := by decide +kernel
theorem dX6_calls_91 : decode cX6_calls 91 = .ok (.bipush 50, 2) := by decide +kernel
theorem dX6_calls_93 : decode cX6_calls 93 = .ok (.if_icmp .le 7, 3) := by decide +kernel
theorem dX6_calls_96 : decode cX6_calls 96 = .ok (.iconst 0, 1) := by decide +kernel
theorem dX6_calls_97 : decode cX6_calls 97 = .ok (.goto 11, 3) := by decide +kernel
theorem dX6_calls_100 : decode cX6_calls 100 = .ok (.iload_n 2, 1) := by decide +kernel
theorem dX6_calls_101 : decode cX6_calls 101 = .ok (.aload_n 0, 1) := by decide +kernel
theorem dX6_calls_102 : decode cX6_calls 102 = .ok (.iload_n 1, 1) := by decide +kernel
theorem dX6_calls_103 : decode cX6_calls 103 = .ok (.iconst 1, 1) := by decide +kernel
theorem dX6_calls_104 : decode cX6_calls 104 = .ok (.invokevirtual 45, 3) := by decide +kernel
theorem dX6_calls_107 : decode cX6_calls 107 = .ok (.iadd, 1) := by decide +kernel
theorem dX6_calls_108 : decode cX6_calls 108 = .ok (.istore_n 3, 1) := by decide +kernel
theorem dX6_calls_109 : decode cX6_calls 109 = .ok (.goto 22, 3) := by decide +kernel
theorem dX6_calls_112 : decode cX6_calls 112 = .ok (.aload_n 0, 1) := by decide +kernel
theorem dX6_calls_113 : decode cX6_calls 113 = .ok (.iload_n 1, 1) := by decide +kernel
theorem dX6_calls_114 : decode cX6_calls 114 = .ok (.invokevirtual 60, 3) := by decide +kernel
theorem dX6_calls_117 : decode cX6_calls 117 = .ok (.ifCond .eq 7, 3) := by decide +kernel
theorem dX6_calls_120 : decode cX6_calls 120 = .ok (.iconst 1, 1) := by decide +kernel
theorem dX6_calls_121 : decode cX6_calls 121 = .ok (.goto 6, 3) := by decide +kernel
theorem dX6_calls_124 : decode cX6_calls 124 = .ok (.iload_n 2, 1) := by decide +kernel
theorem dX6_calls_125 : decode cX6_calls 125 = .ok (.iconst 5, 1) := by decide +kernel
theorem dX6_calls_126 : decode cX6_calls 126 = .ok (.isub, 1) := by decide +kernel
theorem dX6_calls_127 : decode cX6_calls 127 = .ok (.istore_n 3, 1) := by decide +kernel
theorem dX6_calls_128 : decode cX6_calls 128 = .ok (.goto 3, 3) := by decide +kernel
theorem dX6_calls_131 : decode cX6_calls 131 = .ok (.iload_n 3, 1) := by decide +kernel
theorem dX6_calls_132 : decode cX6_calls 132 = .ok (.ifCond .ge 7, 3) := by decide +kernel
theorem dX6_calls_135 : decode cX6_calls 135 = .ok (.iconst 0, 1) := by decide +kernel
theorem dX6_calls_136 : decode cX6_calls 136 = .ok (.goto 4, 3) := by decide +kernel
theorem dX6_calls_139 : decode cX6_calls 139 = .ok (.iload_n 3, 1) := by decide +kernel
theorem dX6_calls_140 : decode cX6_calls 140 = .ok (.ireturn, 1) := by decide +kernel
set_option maxRecDepth 20000 in
theorem ggX6_tires_X6_it : GoodIn wsX6_tires wsX6_it := goodIn_r _ [5, 6, 7, 8, 9, 10, 11, 12, 13, 14, 15, 16, 17, 18, 19, 20, 21, 22] (by decide +kernel) (by decide +kernel)
set_option maxRecDepth 20000 in
theorem gX6_tires_X6_it : GoodIn wsX6_tires (wsV RX6 45 RX6 yX6_it wsX6_it) := goodIn_app (goodIn_of _ (by decide +kernel)) ggX6_tires_X6_it
theorem dX6_tires_0 : decode cX6_tires 0 = .ok (.aload_n 0, 1) := by decide +kernel
theorem dX6_tires_1 : decode cX6_tires 1 = .ok (.iload_n 1, 1) := by decide +kernel
theorem dX6_tires_2 : decode cX6_tires 2 = .ok (.iconst 0, 1) := by decide +kernel
theorem dX6_tires_3 : decode cX6_tires 3 = .ok (.invokevirtual 45, 3) := by decide +kernel
theorem dX6_tires_6 : decode cX6_tires 6 = .ok (.tableswitch 44 1 5 #[34, 37, 40, 34, 42], 34) := by decide +kernel
theorem dX6_tires_40 : decode cX6_tires 40 = .ok (.bipush 10, 2) := by decide +kernel
theorem dX6_tires_42 : decode cX6_tires 42 = .ok (.ireturn, 1) := by decide +kernel
theorem dX6_tires_43 : decode cX6_tires 43 = .ok (.bipush (-3), 2) := by decide +kernel
theorem dX6_tires_45 : decode cX6_tires 45 = .ok (.ireturn, 1) := by decide +kernel
theorem dX6_tires_46 : decode cX6_tires 46 = .ok (.iconst 0, 1) := by decide +kernel
theorem dX6_tires_47 : decode cX6_tires 47 = .ok (.ireturn, 1) := by decide +kernel
theorem dX6_tires_48 : decode cX6_tires 48 = .ok (.iconst (-1), 1) := by decide +kernel
theorem dX6_tires_49 : decode cX6_tires 49 = .ok (.ireturn, 1) := by decide +kernel
theorem dX6_tires_50 : decode cX6_tires 50 = .ok (.bipush 6, 2) := by decide +kernel
theorem dX6_tires_52 : decode cX6_tires 52 = .ok (.ireturn, 1) := by decide +kernel
set_option maxRecDepth 20000 in
theorem ggX6_loudest_X6_isDone : GoodIn wsX6_loudest wsX6_isDone := goodIn_r _ [6, 7, 8, 9, 5, 10, 1, 11, 12, 13, 14, 23, 24, 25, 26, 27, 28, 29, 30, 31, 32, 33, 34, 35, 36, 37, 38] (by decide +kernel) (by decide +kernel)
set_option maxRecDepth 20000 in
theorem gX6_loudest_X6_isDone : GoodIn wsX6_loudest (wsV RX6 56 RX6 yX6_isDone wsX6_isDone) := goodIn_app (goodIn_of _ (by decide +kernel)) ggX6_loudest_X6_isDone
set_option maxRecDepth 20000 in
theorem ggX6_loudest_X6_it : GoodIn wsX6_loudest wsX6_it := goodIn_r _ [10, 1, 23, 24, 25, 26, 27, 28, 29, 30, 31, 32, 33, 34, 35, 36, 37, 38] (by decide +kernel) (by decide +kernel)
set_option maxRecDepth 20000 in
theorem gX6_loudest_X6_it : GoodIn wsX6_loudest (wsV RX6 45 RX6 yX6_it wsX6_it) := goodIn_app (goodIn_of _ (by decide +kernel)) ggX6_loudest_X6_it
set_option maxRecDepth 20000 in
theorem ggX6_loudest_X6_calls : GoodIn wsX6_loudest wsX6_calls := goodIn_r _ [18, 1, 7, 8, 9, 5, 10, 19, 20, 21, 22, 2, 3, 4, 6, 11, 12, 13, 14, 23, 24, 25, 26, 27, 28, 29, 30, 31, 32, 33, 34, 35, 36, 37, 38] (by decide +kernel) (by decide +kernel)
set_option maxRecDepth 20000 in
theorem gX6_loudest_X6_calls : GoodIn wsX6_loudest (wsV RX6 63 RX6 yX6_calls wsX6_calls) := goodIn_app (goodIn_of _ (by decide +kernel)) ggX6_loudest_X6_calls
theorem dX6_loudest_0 : decode cX6_loudest 0 = .ok (.iconst (-1), 1) := by decide +kernel
theorem dX6_loudest_1 : decode cX6_loudest 1 = .ok (.istore_n 1, 1) := by decide +kernel
theorem dX6_loudest_2 : decode cX6_loudest 2 = .ok (.iconst 0, 1) := by decide +kernel
theorem dX6_loudest_3 : decode cX6_loudest 3 = .ok (.istore_n 2, 1) := by decide +kernel
theorem dX6_loudest_4 : decode cX6_loudest 4 = .ok (.iconst 0, 1) := by decide +kernel
theorem dX6_loudest_5 : decode cX6_loudest 5 = .ok (.istore_n 3, 1) := by decide +kernel
theorem dX6_loudest_6 : decode cX6_loudest 6 = .ok (.iload_n 3, 1) := by decide +kernel
theorem dX6_loudest_7 : decode cX6_loudest 7 = .ok (.aload_n 0, 1) := by decide +kernel
theorem dX6_loudest_8 : decode cX6_loudest 8 = .ok (.getfield 9, 3) := by decide +kernel
theorem dX6_loudest_11 : decode cX6_loudest 11 = .ok (.iconst 3, 1) := by decide +kernel
theorem dX6_loudest_12 : decode cX6_loudest 12 = .ok (.iaload, 1) := by decide +kernel
theorem dX6_loudest_13 : decode cX6_loudest 13 = .ok (.if_icmp .ge 62, 3) := by decide +kernel
theorem dX6_loudest_16 : decode cX6_loudest 16 = .ok (.aload_n 0, 1) := by decide +kernel
theorem dX6_loudest_17 : decode cX6_loudest 17 = .ok (.iload_n 3, 1) := by decide +kernel
theorem dX6_loudest_18 : decode cX6_loudest 18 = .ok (.invokevirtual 56, 3) := by decide +kernel
theorem dX6_loudest_21 : decode cX6_loudest 21 = .ok (.ifCond .ne 12, 3) := by decide +kernel
theorem dX6_loudest_24 : decode cX6_loudest 24 = .ok (.aload_n 0, 1) := by decide +kernel
theorem dX6_loudest_25 : decode cX6_loudest 25 = .ok (.iload_n 3, 1) := by decide +kernel
theorem dX6_loudest_26 : decode cX6_loudest 26 = .ok (.iconst 4, 1) := by decide +kernel
theorem dX6_loudest_27 : decode cX6_loudest 27 = .ok (.invokevirtual 45, 3) := by decide +kernel
theorem dX6_loudest_30 : decode cX6_loudest 30 = .ok (.ifCond .le 7, 3) := by decide +kernel
theorem dX6_loudest_33 : decode cX6_loudest 33 = .ok (.iconst 0, 1) := by decide +kernel
theorem dX6_loudest_34 : decode cX6_loudest 34 = .ok (.goto 8, 3) := by decide +kernel
theorem dX6_loudest_37 : decode cX6_loudest 37 = .ok (.aload_n 0, 1) := by decide +kernel
theorem dX6_loudest_38 : decode cX6_loudest 38 = .ok (.iload_n 3, 1) := by decide +kernel
theorem dX6_loudest_39 : decode cX6_loudest 39 = .ok (.invokevirtual 63, 3) := by decide +kernel
theorem dX6_loudest_42 : decode cX6_loudest 42 = .ok (.istore 4, 2) := by decide +kernel
theorem dX6_loudest_44 : decode cX6_loudest 44 = .ok (.iload 4, 2) := by decide +kernel
theorem dX6_loudest_46 : decode cX6_loudest 46 = .ok (.iload_n 2, 1) := by decide +kernel
theorem dX6_loudest_47 : decode cX6_loudest 47 = .ok (.if_icmp .le 7, 3) := by decide +kernel
theorem dX6_loudest_50 : decode cX6_loudest 50 = .ok (.iload_n 3, 1) := by decide +kernel
theorem dX6_loudest_51 : decode cX6_loudest 51 = .ok (.goto 4, 3) := by decide +kernel
theorem dX6_loudest_54 : decode cX6_loudest 54 = .ok (.iload_n 1, 1) := by decide +kernel
theorem dX6_loudest_55 : decode cX6_loudest 55 = .ok (.istore_n 1, 1) := by decide +kernel
theorem dX6_loudest_56 : decode cX6_loudest 56 = .ok (.iload 4, 2) := by decide +kernel
theorem dX6_loudest_58 : decode cX6_loudest 58 = .ok (.iload_n 2, 1) := by decide +kernel
theorem dX6_loudest_59 : decode cX6_loudest 59 = .ok (.if_icmp .le 8, 3) := by decide +kernel
theorem dX6_loudest_62 : decode cX6_loudest 62 = .ok (.iload 4, 2) := by decide +kernel
theorem dX6_loudest_64 : decode cX6_loudest 64 = .ok (.goto 4, 3) := by decide +kernel
theorem dX6_loudest_67 : decode cX6_loudest 67 = .ok (.iload_n 2, 1) := by decide +kernel
theorem dX6_loudest_68 : decode cX6_loudest 68 = .ok (.istore_n 2, 1) := by decide +kernel
theorem dX6_loudest_69 : decode cX6_loudest 69 = .ok (.iinc 3 1, 3) := by decide +kernel
theorem dX6_loudest_72 : decode cX6_loudest 72 = .ok (.goto (-66), 3) := by decide +kernel
theorem dX6_loudest_75 : decode cX6_loudest 75 = .ok (.iload_n 1, 1) := by decide +kernel
theorem dX6_loudest_76 : decode cX6_loudest 76 = .ok (.ireturn, 1) := by decide +kernel
set_option maxRecDepth 20000 in
theorem ggX6_weary_X6_in : GoodIn wsX6_weary wsX6_in := goodIn_r _ [5] (by decide +kernel) (by decide +kernel)
set_option maxRecDepth 20000 in
theorem gX6_weary_X6_in : GoodIn wsX6_weary (va_wsS RX6 41 yX6_in wsX6_in) := goodIn_app (goodIn_of _ (by decide +kernel)) ggX6_weary_X6_in
set_option maxRecDepth 20000 in
theorem ggX6_weary_X6_becomes : GoodIn wsX6_weary wsX6_becomes := goodIn_r _ [9, 10, 16, 17, 18, 19, 20, 21, 22, 23, 24, 25, 26, 27, 28, 29, 30, 31] (by decide +kernel) (by decide +kernel)
set_option maxRecDepth 20000 in
theorem gX6_weary_X6_becomes : GoodIn wsX6_weary (wsV RX6 66 RX6 yX6_becomes wsX6_becomes) := goodIn_app (goodIn_of _ (by decide +kernel)) ggX6_weary_X6_becomes
set_option maxRecDepth 20000 in
theorem ggX6_weary_X6_finds : GoodIn wsX6_weary wsX6_finds := goodIn_r _ [14, 15, 1, 16, 17, 18, 19, 20, 21, 22, 23, 24, 25, 26, 27, 28, 29, 30, 31] (by decide +kernel) (by decide +kernel)
set_option maxRecDepth 20000 in
theorem gX6_weary_X6_finds : GoodIn wsX6_weary (wsV RX6 37 RX6 yX6_finds wsX6_finds) := goodIn_app (goodIn_of _ (by decide +kernel)) ggX6_weary_X6_finds
theorem dX6_weary_0 : decode cX6_weary 0 = .ok (.iload_n 1, 1) := by decide +kernel
theorem dX6_weary_1 : decode cX6_weary 1 = .ok (.i2l, 1) := by decide +kernel
theorem dX6_weary_2 : decode cX6_weary 2 = .ok (.iconst 0, 1) := by decide +kernel
theorem dX6_weary_3 : decode cX6_weary 3 = .ok (.bipush 99, 2) := by decide +kernel
theorem dX6_weary_5 : decode cX6_weary 5 = .ok (.invokestatic 41, 3) := by decide +kernel
theorem dX6_weary_8 : decode cX6_weary 8 = .ok (.ifCond .eq 12, 3) := by decide +kernel
theorem dX6_weary_11 : decode cX6_weary 11 = .ok (.aload_n 0, 1) := by decide +kernel
theorem dX6_weary_12 : decode cX6_weary 12 = .ok (.iconst 1, 1) := by decide +kernel
theorem dX6_weary_13 : decode cX6_weary 13 = .ok (.iload_n 1, 1) := by decide +kernel
theorem dX6_weary_14 : decode cX6_weary 14 = .ok (.invokevirtual 66, 3) := by decide +kernel
theorem dX6_weary_17 : decode cX6_weary 17 = .ok (.goto 9, 3) := by decide +kernel
theorem dX6_weary_20 : decode cX6_weary 20 = .ok (.aload_n 0, 1) := by decide +kernel
theorem dX6_weary_21 : decode cX6_weary 21 = .ok (.ldc 35, 2) := by decide +kernel
theorem dX6_weary_23 : decode cX6_weary 23 = .ok (.invokevirtual 37, 3) := by decide +kernel
theorem dX6_weary_26 : decode cX6_weary 26 = .ok (.ireturn, 1) := by decide +kernel
set_option maxRecDepth 20000 in
theorem ggX6_free_X6_in : GoodIn wsX6_free wsX6_in := goodIn_r _ [5] (by decide +kernel) (by decide +kernel)
set_option maxRecDepth 20000 in
theorem gX6_free_X6_in : GoodIn wsX6_free (va_wsS RX6 41 yX6_in wsX6_in) := goodIn_app (goodIn_of _ (by decide +kernel)) ggX6_free_X6_in
set_option maxRecDepth 20000 in
theorem ggX6_free_X6_becomes : GoodIn wsX6_free wsX6_becomes := goodIn_r _ [9, 10, 16, 17, 18, 19, 20, 21, 22, 23, 24, 25, 26, 27, 28, 29, 30, 31] (by decide +kernel) (by decide +kernel)
set_option maxRecDepth 20000 in
theorem gX6_free_X6_becomes : GoodIn wsX6_free (wsV RX6 66 RX6 yX6_becomes wsX6_becomes) := goodIn_app (goodIn_of _ (by decide +kernel)) ggX6_free_X6_becomes
set_option maxRecDepth 20000 in
theorem ggX6_free_X6_finds : GoodIn wsX6_free wsX6_finds := goodIn_r _ [14, 15, 1, 16, 17, 18, 19, 20, 21, 22, 23, 24, 25, 26, 27, 28, 29, 30, 31] (by decide +kernel) (by decide +kernel)
set_option maxRecDepth 20000 in
theorem gX6_free_X6_finds : GoodIn wsX6_free (wsV RX6 37 RX6 yX6_finds wsX6_finds) := goodIn_app (goodIn_of _ (by decide +kernel)) ggX6_free_X6_finds
theorem dX6_free_0 : decode cX6_free 0 = .ok (.iload_n 1, 1) := by decide +kernel
theorem dX6_free_1 : decode cX6_free 1 = .ok (.i2l, 1) := by decide +kernel
theorem dX6_free_2 : decode cX6_free 2 = .ok (.iconst 0, 1) := by decide +kernel
theorem dX6_free_3 : decode cX6_free 3 = .ok (.bipush 6, 2) := by decide +kernel
theorem dX6_free_5 : decode cX6_free 5 = .ok (.invokestatic 41, 3) := by decide +kernel
theorem dX6_free_8 : decode cX6_free 8 = .ok (.ifCond .eq 24, 3) := by decide +kernel
theorem dX6_free_11 : decode cX6_free 11 = .ok (.iload_n 2, 1) := by decide +kernel
theorem dX6_free_12 : decode cX6_free 12 = .ok (.i2l, 1) := by decide +kernel
theorem dX6_free_13 : decode cX6_free 13 = .ok (.iconst 0, 1) := by decide +kernel
theorem dX6_free_14 : decode cX6_free 14 = .ok (.iconst 1, 1) := by decide +kernel
theorem dX6_free_15 : decode cX6_free 15 = .ok (.invokestatic 41, 3) := by decide +kernel
theorem dX6_free_18 : decode cX6_free 18 = .ok (.ifCond .eq 14, 3) := by decide +kernel
theorem dX6_free_21 : decode cX6_free 21 = .ok (.aload_n 0, 1) := by decide +kernel
theorem dX6_free_22 : decode cX6_free 22 = .ok (.iconst 4, 1) := by decide +kernel
theorem dX6_free_23 : decode cX6_free 23 = .ok (.iload_n 1, 1) := by decide +kernel
theorem dX6_free_24 : decode cX6_free 24 = .ok (.iadd, 1) := by decide +kernel
theorem dX6_free_25 : decode cX6_free 25 = .ok (.iload_n 2, 1) := by decide +kernel
theorem dX6_free_26 : decode cX6_free 26 = .ok (.invokevirtual 66, 3) := by decide +kernel
theorem dX6_free_29 : decode cX6_free 29 = .ok (.goto 9, 3) := by decide +kernel
theorem dX6_free_32 : decode cX6_free 32 = .ok (.aload_n 0, 1) := by decide +kernel
theorem dX6_free_33 : decode cX6_free 33 = .ok (.ldc 35, 2) := by decide +kernel
theorem dX6_free_35 : decode cX6_free 35 = .ok (.invokevirtual 37, 3) := by decide +kernel
theorem dX6_free_38 : decode cX6_free 38 = .ok (.ireturn, 1) := by decide +kernel
set_option maxRecDepth 20000 in
theorem ggX6_doneOnes_X6_isDone : GoodIn wsX6_doneOnes wsX6_isDone := goodIn_r _ [6, 7, 8, 9, 5, 10, 1, 11, 12, 13, 14, 15, 16, 17, 18, 19, 20, 21, 22, 23, 24, 25, 26, 27, 28, 29, 30] (by decide +kernel) (by decide +kernel)
set_option maxRecDepth 20000 in
theorem gX6_doneOnes_X6_isDone : GoodIn wsX6_doneOnes (wsV RX6 56 RX6 yX6_isDone wsX6_isDone) := goodIn_app (goodIn_of _ (by decide +kernel)) ggX6_doneOnes_X6_isDone
theorem dX6_doneOnes_0 : decode cX6_doneOnes 0 = .ok (.iconst 0, 1) := by decide +kernel
theorem dX6_doneOnes_1 : decode cX6_doneOnes 1 = .ok (.istore_n 1, 1) := by decide +kernel
theorem dX6_doneOnes_2 : decode cX6_doneOnes 2 = .ok (.iconst 0, 1) := by decide +kernel
theorem dX6_doneOnes_3 : decode cX6_doneOnes 3 = .ok (.istore_n 2, 1) := by decide +kernel
theorem dX6_doneOnes_4 : decode cX6_doneOnes 4 = .ok (.iload_n 2, 1) := by decide +kernel
theorem dX6_doneOnes_5 : decode cX6_doneOnes 5 = .ok (.aload_n 0, 1) := by decide +kernel
theorem dX6_doneOnes_6 : decode cX6_doneOnes 6 = .ok (.getfield 9, 3) := by decide +kernel
theorem dX6_doneOnes_9 : decode cX6_doneOnes 9 = .ok (.iconst 3, 1) := by decide +kernel
theorem dX6_doneOnes_10 : decode cX6_doneOnes 10 = .ok (.iaload, 1) := by decide +kernel
theorem dX6_doneOnes_11 : decode cX6_doneOnes 11 = .ok (.if_icmp .ge 27, 3) := by decide +kernel
theorem dX6_doneOnes_14 : decode cX6_doneOnes 14 = .ok (.iload_n 1, 1) := by decide +kernel
theorem dX6_doneOnes_15 : decode cX6_doneOnes 15 = .ok (.aload_n 0, 1) := by decide +kernel
theorem dX6_doneOnes_16 : decode cX6_doneOnes 16 = .ok (.iload_n 2, 1) := by decide +kernel
theorem dX6_doneOnes_17 : decode cX6_doneOnes 17 = .ok (.invokevirtual 56, 3) := by decide +kernel
theorem dX6_doneOnes_20 : decode cX6_doneOnes 20 = .ok (.ifCond .eq 9, 3) := by decide +kernel
theorem dX6_doneOnes_23 : decode cX6_doneOnes 23 = .ok (.iconst 1, 1) := by decide +kernel
theorem dX6_doneOnes_24 : decode cX6_doneOnes 24 = .ok (.iload_n 2, 1) := by decide +kernel
theorem dX6_doneOnes_25 : decode cX6_doneOnes 25 = .ok (.ishl, 1) := by decide +kernel
theorem dX6_doneOnes_26 : decode cX6_doneOnes 26 = .ok (.goto 4, 3) := by decide +kernel
theorem dX6_doneOnes_29 : decode cX6_doneOnes 29 = .ok (.iconst 0, 1) := by decide +kernel
theorem dX6_doneOnes_30 : decode cX6_doneOnes 30 = .ok (.ior, 1) := by decide +kernel
theorem dX6_doneOnes_31 : decode cX6_doneOnes 31 = .ok (.istore_n 1, 1) := by decide +kernel
theorem dX6_doneOnes_32 : decode cX6_doneOnes 32 = .ok (.iinc 2 1, 3) := by decide +kernel
theorem dX6_doneOnes_35 : decode cX6_doneOnes 35 = .ok (.goto (-31), 3) := by decide +kernel
theorem dX6_doneOnes_38 : decode cX6_doneOnes 38 = .ok (.iload_n 1, 1) := by decide +kernel
theorem dX6_doneOnes_39 : decode cX6_doneOnes 39 = .ok (.ireturn, 1) := by decide +kernel
set_option maxRecDepth 20000 in
theorem ggX6_behindhand_X6_isDone : GoodIn wsX6_behindhand wsX6_isDone := goodIn_r _ [6, 7, 8, 9, 5, 10, 1, 11, 12, 13, 14, 15, 16, 17, 18, 19, 20, 21, 22, 23, 24, 25, 26, 27, 28, 29, 30] (by decide +kernel) (by decide +kernel)
set_option maxRecDepth 20000 in
theorem gX6_behindhand_X6_isDone : GoodIn wsX6_behindhand (wsV RX6 56 RX6 yX6_isDone wsX6_isDone) := goodIn_app (goodIn_of _ (by decide +kernel)) ggX6_behindhand_X6_isDone
set_option maxRecDepth 20000 in
theorem ggX6_behindhand_X6_it : GoodIn wsX6_behindhand wsX6_it := goodIn_r _ [10, 1, 15, 16, 17, 18, 19, 20, 21, 22, 23, 24, 25, 26, 27, 28, 29, 30] (by decide +kernel) (by decide +kernel)
set_option maxRecDepth 20000 in
theorem gX6_behindhand_X6_it : GoodIn wsX6_behindhand (wsV RX6 45 RX6 yX6_it wsX6_it) := goodIn_app (goodIn_of _ (by decide +kernel)) ggX6_behindhand_X6_it
theorem dX6_behindhand_0 : decode cX6_behindhand 0 = .ok (.iconst 0, 1) := by decide +kernel
theorem dX6_behindhand_1 : decode cX6_behindhand 1 = .ok (.istore_n 1, 1) := by decide +kernel
theorem dX6_behindhand_2 : decode cX6_behindhand 2 = .ok (.iconst 0, 1) := by decide +kernel
theorem dX6_behindhand_3 : decode cX6_behindhand 3 = .ok (.istore_n 2, 1) := by decide +kernel
theorem dX6_behindhand_4 : decode cX6_behindhand 4 = .ok (.iload_n 2, 1) := by decide +kernel
theorem dX6_behindhand_5 : decode cX6_behindhand 5 = .ok (.aload_n 0, 1) := by decide +kernel
theorem dX6_behindhand_6 : decode cX6_behindhand 6 = .ok (.getfield 9, 3) := by decide +kernel
theorem dX6_behindhand_9 : decode cX6_behindhand 9 = .ok (.iconst 3, 1) := by decide +kernel
theorem dX6_behindhand_10 : decode cX6_behindhand 10 = .ok (.iaload, 1) := by decide +kernel
theorem dX6_behindhand_11 : decode cX6_behindhand 11 = .ok (.if_icmp .ge 42, 3) := by decide +kernel
theorem dX6_behindhand_14 : decode cX6_behindhand 14 = .ok (.iload_n 1, 1) := by decide +kernel
theorem dX6_behindhand_15 : decode cX6_behindhand 15 = .ok (.aload_n 0, 1) := by decide +kernel
theorem dX6_behindhand_16 : decode cX6_behindhand 16 = .ok (.iload_n 2, 1) := by decide +kernel
theorem dX6_behindhand_17 : decode cX6_behindhand 17 = .ok (.invokevirtual 56, 3) := by decide +kernel
theorem dX6_behindhand_20 : decode cX6_behindhand 20 = .ok (.ifCond .ne 24, 3) := by decide +kernel
theorem dX6_behindhand_23 : decode cX6_behindhand 23 = .ok (.aload_n 0, 1) := by decide +kernel
theorem dX6_behindhand_24 : decode cX6_behindhand 24 = .ok (.getfield 9, 3) := by decide +kernel
theorem dX6_behindhand_27 : decode cX6_behindhand 27 = .ok (.iconst 0, 1) := by decide +kernel
theorem dX6_behindhand_28 : decode cX6_behindhand 28 = .ok (.iaload, 1) := by decide +kernel
theorem dX6_behindhand_29 : decode cX6_behindhand 29 = .ok (.aload_n 0, 1) := by decide +kernel
theorem dX6_behindhand_30 : decode cX6_behindhand 30 = .ok (.iload_n 2, 1) := by decide +kernel
theorem dX6_behindhand_31 : decode cX6_behindhand 31 = .ok (.iconst 3, 1) := by decide +kernel
theorem dX6_behindhand_32 : decode cX6_behindhand 32 = .ok (.invokevirtual 45, 3) := by decide +kernel
theorem dX6_behindhand_35 : decode cX6_behindhand 35 = .ok (.if_icmp .le 9, 3) := by decide +kernel
theorem dX6_behindhand_38 : decode cX6_behindhand 38 = .ok (.iconst 1, 1) := by decide +kernel
theorem dX6_behindhand_39 : decode cX6_behindhand 39 = .ok (.iload_n 2, 1) := by decide +kernel
theorem dX6_behindhand_40 : decode cX6_behindhand 40 = .ok (.ishl, 1) := by decide +kernel
theorem dX6_behindhand_41 : decode cX6_behindhand 41 = .ok (.goto 4, 3) := by decide +kernel
theorem dX6_behindhand_44 : decode cX6_behindhand 44 = .ok (.iconst 0, 1) := by decide +kernel
theorem dX6_behindhand_45 : decode cX6_behindhand 45 = .ok (.ior, 1) := by decide +kernel
theorem dX6_behindhand_46 : decode cX6_behindhand 46 = .ok (.istore_n 1, 1) := by decide +kernel
theorem dX6_behindhand_47 : decode cX6_behindhand 47 = .ok (.iinc 2 1, 3) := by decide +kernel
theorem dX6_behindhand_50 : decode cX6_behindhand 50 = .ok (.goto (-46), 3) := by decide +kernel
theorem dX6_behindhand_53 : decode cX6_behindhand 53 = .ok (.iload_n 1, 1) := by decide +kernel
theorem dX6_behindhand_54 : decode cX6_behindhand 54 = .ok (.ireturn, 1) := by decide +kernel
set_option maxRecDepth 20000 in
theorem ggX6_now_X6_isHoliday : GoodIn wsX6_now wsX6_isHoliday := goodIn_r _ [7, 1, 45, 46, 47, 48, 49, 50, 51, 52, 53, 54, 55, 56, 57, 58, 59, 60] (by decide +kernel) (by decide +kernel)
set_option maxRecDepth 20000 in
theorem gX6_now_X6_isHoliday : GoodIn wsX6_now (wsV RX6 52 RX6 yX6_isHoliday wsX6_isHoliday) := goodIn_app (goodIn_of _ (by decide +kernel)) ggX6_now_X6_isHoliday
set_option maxRecDepth 20000 in
theorem ggX6_now_X6_loudest : GoodIn wsX6_now wsX6_loudest := goodIn_r _ [11, 1, 12, 13, 14, 6, 15, 16, 17, 18, 19, 20, 21, 22, 23, 24, 25, 26, 27, 28, 29, 30, 31, 45, 46, 47, 48, 49, 50, 51, 52, 53, 54, 55, 56, 57, 58, 59, 60] (by decide +kernel) (by decide +kernel)
set_option maxRecDepth 20000 in
theorem gX6_now_X6_loudest : GoodIn wsX6_now (wsV RX6 69 RX6 yX6_loudest wsX6_loudest) := goodIn_app (goodIn_of _ (by decide +kernel)) ggX6_now_X6_loudest
set_option maxRecDepth 20000 in
theorem ggX6_now_X6_doneOnes : GoodIn wsX6_now wsX6_doneOnes := goodIn_r _ [35, 1, 12, 13, 14, 6, 15, 16, 17, 18, 19, 20, 21, 22, 23, 45, 46, 47, 48, 49, 50, 51, 52, 53, 54, 55, 56, 57, 58, 59, 60] (by decide +kernel) (by decide +kernel)
set_option maxRecDepth 20000 in
theorem gX6_now_X6_doneOnes : GoodIn wsX6_now (wsV RX6 73 RX6 yX6_doneOnes wsX6_doneOnes) := goodIn_app (goodIn_of _ (by decide +kernel)) ggX6_now_X6_doneOnes
set_option maxRecDepth 20000 in
theorem ggX6_now_X6_behindhand : GoodIn wsX6_now wsX6_behindhand := goodIn_r _ [39, 1, 12, 13, 14, 6, 15, 16, 17, 18, 19, 20, 21, 22, 23, 45, 46, 47, 48, 49, 50, 51, 52, 53, 54, 55, 56, 57, 58, 59, 60] (by decide +kernel) (by decide +kernel)
set_option maxRecDepth 20000 in
theorem gX6_now_X6_behindhand : GoodIn wsX6_now (wsV RX6 76 RX6 yX6_behindhand wsX6_behindhand) := goodIn_app (goodIn_of _ (by decide +kernel)) ggX6_now_X6_behindhand
set_option maxRecDepth 20000 in
theorem ggX6_now_X6_finds : GoodIn wsX6_now wsX6_finds := goodIn_r _ [43, 44, 2, 45, 46, 47, 48, 49, 50, 51, 52, 53, 54, 55, 56, 57, 58, 59, 60] (by decide +kernel) (by decide +kernel)
set_option maxRecDepth 20000 in
theorem gX6_now_X6_finds : GoodIn wsX6_now (wsV RX6 37 RX6 yX6_finds wsX6_finds) := goodIn_app (goodIn_of _ (by decide +kernel)) ggX6_now_X6_finds
theorem dX6_now_0 : decode cX6_now 0 = .ok (.iload_n 1, 1) := by decide +kernel
theorem dX6_now_1 : decode cX6_now 1 = .ok (.tableswitch 92 0 6 #[43, 50, 63, 70, 77, 82, 87], 43) := by decide +kernel
theorem dX6_now_44 : decode cX6_now 44 = .ok (.aload_n 0, 1) := by decide +kernel
theorem dX6_now_45 : decode cX6_now 45 = .ok (.getfield 9, 3) := by decide +kernel
theorem dX6_now_48 : decode cX6_now 48 = .ok (.iconst 0, 1) := by decide +kernel
theorem dX6_now_49 : decode cX6_now 49 = .ok (.iaload, 1) := by decide +kernel
theorem dX6_now_50 : decode cX6_now 50 = .ok (.ireturn, 1) := by decide +kernel
theorem dX6_now_51 : decode cX6_now 51 = .ok (.aload_n 0, 1) := by decide +kernel
theorem dX6_now_52 : decode cX6_now 52 = .ok (.invokevirtual 52, 3) := by decide +kernel
theorem dX6_now_55 : decode cX6_now 55 = .ok (.ifCond .eq 7, 3) := by decide +kernel
theorem dX6_now_58 : decode cX6_now 58 = .ok (.iconst 1, 1) := by decide +kernel
theorem dX6_now_59 : decode cX6_now 59 = .ok (.goto 4, 3) := by decide +kernel
theorem dX6_now_62 : decode cX6_now 62 = .ok (.iconst 0, 1) := by decide +kernel
theorem dX6_now_63 : decode cX6_now 63 = .ok (.ireturn, 1) := by decide +kernel
theorem dX6_now_64 : decode cX6_now 64 = .ok (.aload_n 0, 1) := by decide +kernel
theorem dX6_now_65 : decode cX6_now 65 = .ok (.getfield 9, 3) := by decide +kernel
theorem dX6_now_68 : decode cX6_now 68 = .ok (.iconst 1, 1) := by decide +kernel
theorem dX6_now_69 : decode cX6_now 69 = .ok (.iaload, 1) := by decide +kernel
theorem dX6_now_70 : decode cX6_now 70 = .ok (.ireturn, 1) := by decide +kernel
theorem dX6_now_71 : decode cX6_now 71 = .ok (.aload_n 0, 1) := by decide +kernel
theorem dX6_now_72 : decode cX6_now 72 = .ok (.getfield 9, 3) := by decide +kernel
theorem dX6_now_75 : decode cX6_now 75 = .ok (.iconst 2, 1) := by decide +kernel
theorem dX6_now_76 : decode cX6_now 76 = .ok (.iaload, 1) := by decide +kernel
theorem dX6_now_77 : decode cX6_now 77 = .ok (.ireturn, 1) := by decide +kernel
theorem dX6_now_78 : decode cX6_now 78 = .ok (.aload_n 0, 1) := by decide +kernel
theorem dX6_now_79 : decode cX6_now 79 = .ok (.invokevirtual 69, 3) := by decide +kernel
theorem dX6_now_82 : decode cX6_now 82 = .ok (.ireturn, 1) := by decide +kernel
theorem dX6_now_83 : decode cX6_now 83 = .ok (.aload_n 0, 1) := by decide +kernel
theorem dX6_now_84 : decode cX6_now 84 = .ok (.invokevirtual 73, 3) := by decide +kernel
theorem dX6_now_87 : decode cX6_now 87 = .ok (.ireturn, 1) := by decide +kernel
theorem dX6_now_88 : decode cX6_now 88 = .ok (.aload_n 0, 1) := by decide +kernel
theorem dX6_now_89 : decode cX6_now 89 = .ok (.invokevirtual 76, 3) := by decide +kernel
theorem dX6_now_92 : decode cX6_now 92 = .ok (.ireturn, 1) := by decide +kernel
theorem dX6_now_93 : decode cX6_now 93 = .ok (.aload_n 0, 1) := by decide +kernel
theorem dX6_now_94 : decode cX6_now 94 = .ok (.ldc 35, 2) := by decide +kernel
theorem dX6_now_96 : decode cX6_now 96 = .ok (.invokevirtual 37, 3) := by decide +kernel
theorem dX6_now_99 : decode cX6_now 99 = .ok (.ireturn, 1) := by decide +kernel
set_option maxRecDepth 20000 in
theorem ggX6_comesAs_X6_put : GoodIn wsX6_comesAs wsX6_put := goodIn_r _ [6, 1, 7, 8, 9, 10, 11, 12, 13, 14, 15, 16, 17, 18, 19, 20, 21, 22] (by decide +kernel) (by decide +kernel)
set_option maxRecDepth 20000 in
theorem gX6_comesAs_X6_put : GoodIn wsX6_comesAs (wsV RX6 79 RX6 yX6_put wsX6_put) := goodIn_app (goodIn_of _ (by decide +kernel)) ggX6_comesAs_X6_put
theorem dX6_comesAs_0 : decode cX6_comesAs 0 = .ok (.aload_n 0, 1) := by decide +kernel
theorem dX6_comesAs_1 : decode cX6_comesAs 1 = .ok (.getfield 9, 3) := by decide +kernel
theorem dX6_comesAs_4 : decode cX6_comesAs 4 = .ok (.iconst 3, 1) := by decide +kernel
theorem dX6_comesAs_5 : decode cX6_comesAs 5 = .ok (.iaload, 1) := by decide +kernel
theorem dX6_comesAs_6 : decode cX6_comesAs 6 = .ok (.istore 5, 2) := by decide +kernel
theorem dX6_comesAs_8 : decode cX6_comesAs 8 = .ok (.aload_n 0, 1) := by decide +kernel
theorem dX6_comesAs_9 : decode cX6_comesAs 9 = .ok (.getfield 9, 3) := by decide +kernel
theorem dX6_comesAs_12 : decode cX6_comesAs 12 = .ok (.iconst 3, 1) := by decide +kernel
theorem dX6_comesAs_13 : decode cX6_comesAs 13 = .ok (.dup2, 1) := by decide +kernel
theorem dX6_comesAs_14 : decode cX6_comesAs 14 = .ok (.iaload, 1) := by decide +kernel
theorem dX6_comesAs_15 : decode cX6_comesAs 15 = .ok (.iconst 1, 1) := by decide +kernel
theorem dX6_comesAs_16 : decode cX6_comesAs 16 = .ok (.iadd, 1) := by decide +kernel
theorem dX6_comesAs_17 : decode cX6_comesAs 17 = .ok (.iastore, 1) := by decide +kernel
theorem dX6_comesAs_18 : decode cX6_comesAs 18 = .ok (.aload_n 0, 1) := by decide +kernel
theorem dX6_comesAs_19 : decode cX6_comesAs 19 = .ok (.iload 5, 2) := by decide +kernel
theorem dX6_comesAs_21 : decode cX6_comesAs 21 = .ok (.iconst 0, 1) := by decide +kernel
theorem dX6_comesAs_22 : decode cX6_comesAs 22 = .ok (.iload_n 1, 1) := by decide +kernel
theorem dX6_comesAs_23 : decode cX6_comesAs 23 = .ok (.invokevirtual 79, 3) := by decide +kernel
theorem dX6_comesAs_26 : decode cX6_comesAs 26 = .ok (.aload_n 0, 1) := by decide +kernel
theorem dX6_comesAs_27 : decode cX6_comesAs 27 = .ok (.iload 5, 2) := by decide +kernel
theorem dX6_comesAs_29 : decode cX6_comesAs 29 = .ok (.iconst 1, 1) := by decide +kernel
theorem dX6_comesAs_30 : decode cX6_comesAs 30 = .ok (.iload_n 3, 1) := by decide +kernel
theorem dX6_comesAs_31 : decode cX6_comesAs 31 = .ok (.invokevirtual 79, 3) := by decide +kernel
theorem dX6_comesAs_34 : decode cX6_comesAs 34 = .ok (.aload_n 0, 1) := by decide +kernel
theorem dX6_comesAs_35 : decode cX6_comesAs 35 = .ok (.iload 5, 2) := by decide +kernel
theorem dX6_comesAs_37 : decode cX6_comesAs 37 = .ok (.iconst 2, 1) := by decide +kernel
theorem dX6_comesAs_38 : decode cX6_comesAs 38 = .ok (.iconst 0, 1) := by decide +kernel
theorem dX6_comesAs_39 : decode cX6_comesAs 39 = .ok (.invokevirtual 79, 3) := by decide +kernel
theorem dX6_comesAs_42 : decode cX6_comesAs 42 = .ok (.aload_n 0, 1) := by decide +kernel
theorem dX6_comesAs_43 : decode cX6_comesAs 43 = .ok (.iload 5, 2) := by decide +kernel
theorem dX6_comesAs_45 : decode cX6_comesAs 45 = .ok (.iconst 3, 1) := by decide +kernel
theorem dX6_comesAs_46 : decode cX6_comesAs 46 = .ok (.iload_n 2, 1) := by decide +kernel
theorem dX6_comesAs_47 : decode cX6_comesAs 47 = .ok (.invokevirtual 79, 3) := by decide +kernel
theorem dX6_comesAs_50 : decode cX6_comesAs 50 = .ok (.aload_n 0, 1) := by decide +kernel
theorem dX6_comesAs_51 : decode cX6_comesAs 51 = .ok (.iload 5, 2) := by decide +kernel
theorem dX6_comesAs_53 : decode cX6_comesAs 53 = .ok (.iconst 4, 1) := by decide +kernel
theorem dX6_comesAs_54 : decode cX6_comesAs 54 = .ok (.iload 4, 2) := by decide +kernel
theorem dX6_comesAs_56 : decode cX6_comesAs 56 = .ok (.invokevirtual 79, 3) := by decide +kernel
theorem dX6_comesAs_59 : decode cX6_comesAs 59 = .ok (.iload 5, 2) := by decide +kernel
theorem dX6_comesAs_61 : decode cX6_comesAs 61 = .ok (.ireturn, 1) := by decide +kernel
set_option maxRecDepth 20000 in
theorem ggX6_part_X6_in : GoodIn wsX6_part wsX6_in := goodIn_r _ [7] (by decide +kernel) (by decide +kernel)
set_option maxRecDepth 20000 in
theorem gX6_part_X6_in : GoodIn wsX6_part (va_wsS RX6 41 yX6_in wsX6_in) := goodIn_app (goodIn_of _ (by decide +kernel)) ggX6_part_X6_in
set_option maxRecDepth 20000 in
theorem ggX6_part_X6_finds : GoodIn wsX6_part wsX6_finds := goodIn_r _ [11, 12, 1, 21, 22, 23, 24, 25, 26, 27, 28, 29, 30, 31, 32, 33, 34, 35, 36] (by decide +kernel) (by decide +kernel)
set_option maxRecDepth 20000 in
theorem gX6_part_X6_finds : GoodIn wsX6_part (wsV RX6 37 RX6 yX6_finds wsX6_finds) := goodIn_app (goodIn_of _ (by decide +kernel)) ggX6_part_X6_finds
set_option maxRecDepth 20000 in
theorem ggX6_part_X6_comesAs : GoodIn wsX6_part wsX6_comesAs := goodIn_r _ [16, 2, 17, 18, 19, 6, 20, 21, 22, 23, 24, 25, 26, 27, 28, 29, 30, 31, 32, 33, 34, 35, 36] (by decide +kernel) (by decide +kernel)
set_option maxRecDepth 20000 in
theorem gX6_part_X6_comesAs : GoodIn wsX6_part (wsV RX6 84 RX6 yX6_comesAs wsX6_comesAs) := goodIn_app (goodIn_of _ (by decide +kernel)) ggX6_part_X6_comesAs
theorem dX6_part_0 : decode cX6_part 0 = .ok (.iload_n 1, 1) := by decide +kernel
theorem dX6_part_1 : decode cX6_part 1 = .ok (.i2l, 1) := by decide +kernel
theorem dX6_part_2 : decode cX6_part 2 = .ok (.iconst 0, 1) := by decide +kernel
theorem dX6_part_3 : decode cX6_part 3 = .ok (.iconst 5, 1) := by decide +kernel
theorem dX6_part_4 : decode cX6_part 4 = .ok (.invokestatic 41, 3) := by decide +kernel
theorem dX6_part_7 : decode cX6_part 7 = .ok (.ifCond .eq 15, 3) := by decide +kernel
theorem dX6_part_10 : decode cX6_part 10 = .ok (.iload_n 2, 1) := by decide +kernel
theorem dX6_part_11 : decode cX6_part 11 = .ok (.i2l, 1) := by decide +kernel
theorem dX6_part_12 : decode cX6_part 12 = .ok (.iconst 0, 1) := by decide +kernel
theorem dX6_part_13 : decode cX6_part 13 = .ok (.sipush 9999, 3) := by decide +kernel
theorem dX6_part_16 : decode cX6_part 16 = .ok (.invokestatic 41, 3) := by decide +kernel
theorem dX6_part_19 : decode cX6_part 19 = .ok (.ifCond .ne 10, 3) := by decide +kernel
theorem dX6_part_22 : decode cX6_part 22 = .ok (.aload_n 0, 1) := by decide +kernel
theorem dX6_part_23 : decode cX6_part 23 = .ok (.ldc 35, 2) := by decide +kernel
theorem dX6_part_25 : decode cX6_part 25 = .ok (.invokevirtual 37, 3) := by decide +kernel
theorem dX6_part_28 : decode cX6_part 28 = .ok (.ireturn, 1) := by decide +kernel
theorem dX6_part_29 : decode cX6_part 29 = .ok (.aload_n 0, 1) := by decide +kernel
theorem dX6_part_30 : decode cX6_part 30 = .ok (.getfield 9, 3) := by decide +kernel
theorem dX6_part_33 : decode cX6_part 33 = .ok (.iconst 3, 1) := by decide +kernel
theorem dX6_part_34 : decode cX6_part 34 = .ok (.iaload, 1) := by decide +kernel
theorem dX6_part_35 : decode cX6_part 35 = .ok (.bipush 8, 2) := by decide +kernel
theorem dX6_part_37 : decode cX6_part 37 = .ok (.if_icmp .ne 12, 3) := by decide +kernel
theorem dX6_part_40 : decode cX6_part 40 = .ok (.aload_n 0, 1) := by decide +kernel
theorem dX6_part_41 : decode cX6_part 41 = .ok (.ldc 83, 2) := by decide +kernel
theorem dX6_part_43 : decode cX6_part 43 = .ok (.invokevirtual 37, 3) := by decide +kernel
theorem dX6_part_46 : decode cX6_part 46 = .ok (.goto 12, 3) := by decide +kernel
theorem dX6_part_49 : decode cX6_part 49 = .ok (.aload_n 0, 1) := by decide +kernel
theorem dX6_part_50 : decode cX6_part 50 = .ok (.iload_n 1, 1) := by decide +kernel
theorem dX6_part_51 : decode cX6_part 51 = .ok (.iload_n 2, 1) := by decide +kernel
theorem dX6_part_52 : decode cX6_part 52 = .ok (.bipush 10, 2) := by decide +kernel
theorem dX6_part_54 : decode cX6_part 54 = .ok (.iconst 0, 1) := by decide +kernel
theorem dX6_part_55 : decode cX6_part 55 = .ok (.invokevirtual 84, 3) := by decide +kernel
theorem dX6_part_58 : decode cX6_part 58 = .ok (.ireturn, 1) := by decide +kernel
set_option maxRecDepth 20000 in
theorem ggX6_of_X6_isPart : GoodIn wsX6_of wsX6_isPart := goodIn_r _ [6, 7, 8, 9, 5, 10, 48, 49, 50, 51, 52, 53, 54, 55, 56, 57, 58, 59, 60, 61, 62, 63] (by decide +kernel) (by decide +kernel)
set_option maxRecDepth 20000 in
theorem gX6_of_X6_isPart : GoodIn wsX6_of (wsV RX6 88 RX6 yX6_isPart wsX6_isPart) := goodIn_app (goodIn_of _ (by decide +kernel)) ggX6_of_X6_isPart
set_option maxRecDepth 20000 in
theorem ggX6_of_X6_in : GoodIn wsX6_of wsX6_in := goodIn_r _ [10] (by decide +kernel) (by decide +kernel)
set_option maxRecDepth 20000 in
theorem gX6_of_X6_in : GoodIn wsX6_of (va_wsS RX6 41 yX6_in wsX6_in) := goodIn_app (goodIn_of _ (by decide +kernel)) ggX6_of_X6_in
set_option maxRecDepth 20000 in
theorem ggX6_of_X6_finds : GoodIn wsX6_of wsX6_finds := goodIn_r _ [14, 15, 1, 48, 49, 50, 51, 52, 53, 54, 55, 56, 57, 58, 59, 60, 61, 62, 63] (by decide +kernel) (by decide +kernel)
set_option maxRecDepth 20000 in
theorem gX6_of_X6_finds : GoodIn wsX6_of (wsV RX6 37 RX6 yX6_finds wsX6_finds) := goodIn_app (goodIn_of _ (by decide +kernel)) ggX6_of_X6_finds
set_option maxRecDepth 20000 in
theorem ggX6_of_X6_needs : GoodIn wsX6_of wsX6_needs := goodIn_r _ [19, 20, 21, 22, 5, 23, 7, 48, 49, 50, 51, 52, 53, 54, 55, 56, 57, 58, 59, 60, 61, 62, 63] (by decide +kernel) (by decide +kernel)
set_option maxRecDepth 20000 in
theorem gX6_of_X6_needs : GoodIn wsX6_of (wsV RX6 49 RX6 yX6_needs wsX6_needs) := goodIn_app (goodIn_of _ (by decide +kernel)) ggX6_of_X6_needs
set_option maxRecDepth 20000 in
theorem ggX6_of_X6_gives : GoodIn wsX6_of wsX6_gives := goodIn_r _ [27, 7, 28, 29, 30, 5, 31, 20, 21, 22, 23, 48, 49, 50, 51, 52, 53, 54, 55, 56, 57, 58, 59, 60, 61, 62, 63] (by decide +kernel) (by decide +kernel)
set_option maxRecDepth 20000 in
theorem gX6_of_X6_gives : GoodIn wsX6_of (wsV RX6 91 RX6 yX6_gives wsX6_gives) := goodIn_app (goodIn_of _ (by decide +kernel)) ggX6_of_X6_gives
set_option maxRecDepth 20000 in
theorem ggX6_of_X6_calls : GoodIn wsX6_of wsX6_calls := goodIn_r _ [35, 7, 20, 21, 22, 5, 23, 36, 37, 38, 39, 40, 41, 42, 43, 16, 17, 18, 19, 48, 49, 50, 51, 52, 53, 54, 55, 56, 57, 58, 59, 60, 61, 62, 63] (by decide +kernel) (by decide +kernel)
set_option maxRecDepth 20000 in
theorem gX6_of_X6_calls : GoodIn wsX6_of (wsV RX6 63 RX6 yX6_calls wsX6_calls) := goodIn_app (goodIn_of _ (by decide +kernel)) ggX6_of_X6_calls
set_option maxRecDepth 20000 in
theorem ggX6_of_X6_tires : GoodIn wsX6_of wsX6_tires := goodIn_r _ [47, 20, 21, 22, 5, 23, 7, 48, 49, 50, 51, 52, 53, 54, 55, 56, 57, 58, 59, 60, 61, 62, 63] (by decide +kernel) (by decide +kernel)
set_option maxRecDepth 20000 in
theorem gX6_of_X6_tires : GoodIn wsX6_of (wsV RX6 94 RX6 yX6_tires wsX6_tires) := goodIn_app (goodIn_of _ (by decide +kernel)) ggX6_of_X6_tires
set_option maxRecDepth 20000 in
theorem ggX6_of_X6_isDone : GoodIn wsX6_of wsX6_isDone := goodIn_r _ [43, 20, 21, 22, 5, 23, 7, 16, 17, 18, 19, 48, 49, 50, 51, 52, 53, 54, 55, 56, 57, 58, 59, 60, 61, 62, 63] (by decide +kernel) (by decide +kernel)
set_option maxRecDepth 20000 in
theorem gX6_of_X6_isDone : GoodIn wsX6_of (wsV RX6 56 RX6 yX6_isDone wsX6_isDone) := goodIn_app (goodIn_of _ (by decide +kernel)) ggX6_of_X6_isDone
set_option maxRecDepth 20000 in
theorem ggX6_of_X6_it : GoodIn wsX6_of wsX6_it := goodIn_r _ [23, 7, 48, 49, 50, 51, 52, 53, 54, 55, 56, 57, 58, 59, 60, 61, 62, 63] (by decide +kernel) (by decide +kernel)
set_option maxRecDepth 20000 in
theorem gX6_of_X6_it : GoodIn wsX6_of (wsV RX6 45 RX6 yX6_it wsX6_it) := goodIn_app (goodIn_of _ (by decide +kernel)) ggX6_of_X6_it
theorem dX6_of_0 : decode cX6_of 0 = .ok (.aload_n 0, 1) := by decide +kernel
theorem dX6_of_1 : decode cX6_of 1 = .ok (.iload_n 1, 1) := by decide +kernel
theorem dX6_of_2 : decode cX6_of 2 = .ok (.invokevirtual 88, 3) := by decide +kernel
theorem dX6_of_5 : decode cX6_of 5 = .ok (.ifCond .eq 14, 3) := by decide +kernel
theorem dX6_of_8 : decode cX6_of 8 = .ok (.iload_n 2, 1) := by decide +kernel
theorem dX6_of_9 : decode cX6_of 9 = .ok (.i2l, 1) := by decide +kernel
theorem dX6_of_10 : decode cX6_of 10 = .ok (.iconst 0, 1) := by decide +kernel
theorem dX6_of_11 : decode cX6_of 11 = .ok (.bipush 9, 2) := by decide +kernel
theorem dX6_of_13 : decode cX6_of 13 = .ok (.invokestatic 41, 3) := by decide +kernel
theorem dX6_of_16 : decode cX6_of 16 = .ok (.ifCond .ne 10, 3) := by decide +kernel
theorem dX6_of_19 : decode cX6_of 19 = .ok (.aload_n 0, 1) := by decide +kernel
theorem dX6_of_20 : decode cX6_of 20 = .ok (.ldc 35, 2) := by decide +kernel
theorem dX6_of_22 : decode cX6_of 22 = .ok (.invokevirtual 37, 3) := by decide +kernel
theorem dX6_of_25 : decode cX6_of 25 = .ok (.ireturn, 1) := by decide +kernel
theorem dX6_of_26 : decode cX6_of 26 = .ok (.iload_n 2, 1) := by decide +kernel
theorem dX6_of_27 : decode cX6_of 27 = .ok (.tableswitch 74 5 9 #[33, 39, 45, 51, 60], 33) := by decide +kernel
theorem dX6_of_60 : decode cX6_of 60 = .ok (.aload_n 0, 1) := by decide +kernel
theorem dX6_of_61 : decode cX6_of 61 = .ok (.iload_n 1, 1) := by decide +kernel
theorem dX6_of_62 : decode cX6_of 62 = .ok (.invokevirtual 49, 3) := by decide +kernel
theorem dX6_of_65 : decode cX6_of 65 = .ok (.ireturn, 1) := by decide +kernel
theorem dX6_of_66 : decode cX6_of 66 = .ok (.aload_n 0, 1) := by decide +kernel
theorem dX6_of_67 : decode cX6_of 67 = .ok (.iload_n 1, 1) := by decide +kernel
theorem dX6_of_68 : decode cX6_of 68 = .ok (.invokevirtual 91, 3) := by decide +kernel
theorem dX6_of_71 : decode cX6_of 71 = .ok (.ireturn, 1) := by decide +kernel
theorem dX6_of_72 : decode cX6_of 72 = .ok (.aload_n 0, 1) := by decide +kernel
theorem dX6_of_73 : decode cX6_of 73 = .ok (.iload_n 1, 1) := by decide +kernel
theorem dX6_of_74 : decode cX6_of 74 = .ok (.invokevirtual 63, 3) := by decide +kernel
theorem dX6_of_77 : decode cX6_of 77 = .ok (.ireturn, 1) := by decide +kernel
theorem dX6_of_78 : decode cX6_of 78 = .ok (.bipush 100, 2) := by decide +kernel
theorem dX6_of_80 : decode cX6_of 80 = .ok (.aload_n 0, 1) := by decide +kernel
theorem dX6_of_81 : decode cX6_of 81 = .ok (.iload_n 1, 1) := by decide +kernel
theorem dX6_of_82 : decode cX6_of 82 = .ok (.invokevirtual 94, 3) := by decide +kernel
theorem dX6_of_85 : decode cX6_of 85 = .ok (.iadd, 1) := by decide +kernel
theorem dX6_of_86 : decode cX6_of 86 = .ok (.ireturn, 1) := by decide +kernel
theorem dX6_of_87 : decode cX6_of 87 = .ok (.aload_n 0, 1) := by decide +kernel
theorem dX6_of_88 : decode cX6_of 88 = .ok (.iload_n 1, 1) := by decide +kernel
theorem dX6_of_89 : decode cX6_of 89 = .ok (.invokevirtual 56, 3) := by decide +kernel
theorem dX6_of_92 : decode cX6_of 92 = .ok (.ifCond .eq 7, 3) := by decide +kernel
theorem dX6_of_95 : decode cX6_of 95 = .ok (.iconst 1, 1) := by decide +kernel
theorem dX6_of_96 : decode cX6_of 96 = .ok (.goto 4, 3) := by decide +kernel
theorem dX6_of_99 : decode cX6_of 99 = .ok (.iconst 0, 1) := by decide +kernel
theorem dX6_of_100 : decode cX6_of 100 = .ok (.ireturn, 1) := by decide +kernel
theorem dX6_of_101 : decode cX6_of 101 = .ok (.aload_n 0, 1) := by decide +kernel
theorem dX6_of_102 : decode cX6_of 102 = .ok (.iload_n 1, 1) := by decide +kernel
theorem dX6_of_103 : decode cX6_of 103 = .ok (.iload_n 2, 1) := by decide +kernel
theorem dX6_of_104 : decode cX6_of 104 = .ok (.invokevirtual 45, 3) := by decide +kernel
theorem dX6_of_107 : decode cX6_of 107 = .ok (.ireturn, 1) := by decide +kernel
set_option maxRecDepth 20000 in
theorem ggX6_set_X6_isPart : GoodIn wsX6_set wsX6_isPart := goodIn_r _ [6, 7, 8, 9, 5, 10, 20, 21, 22, 23, 24, 25, 26, 27, 28, 29, 30, 31, 32, 33, 34, 35] (by decide +kernel) (by decide +kernel)
set_option maxRecDepth 20000 in
theorem gX6_set_X6_isPart : GoodIn wsX6_set (wsV RX6 88 RX6 yX6_isPart wsX6_isPart) := goodIn_app (goodIn_of _ (by decide +kernel)) ggX6_set_X6_isPart
set_option maxRecDepth 20000 in
theorem ggX6_set_X6_in : GoodIn wsX6_set wsX6_in := goodIn_r _ [10] (by decide +kernel) (by decide +kernel)
set_option maxRecDepth 20000 in
theorem gX6_set_X6_in : GoodIn wsX6_set (va_wsS RX6 41 yX6_in wsX6_in) := goodIn_app (goodIn_of _ (by decide +kernel)) ggX6_set_X6_in
set_option maxRecDepth 20000 in
theorem ggX6_set_X6_becomes : GoodIn wsX6_set wsX6_becomes := goodIn_r _ [14, 7, 20, 21, 22, 23, 24, 25, 26, 27, 28, 29, 30, 31, 32, 33, 34, 35] (by decide +kernel) (by decide +kernel)
set_option maxRecDepth 20000 in
theorem gX6_set_X6_becomes : GoodIn wsX6_set (wsV RX6 66 RX6 yX6_becomes wsX6_becomes) := goodIn_app (goodIn_of _ (by decide +kernel)) ggX6_set_X6_becomes
set_option maxRecDepth 20000 in
theorem ggX6_set_X6_finds : GoodIn wsX6_set wsX6_finds := goodIn_r _ [18, 19, 1, 20, 21, 22, 23, 24, 25, 26, 27, 28, 29, 30, 31, 32, 33, 34, 35] (by decide +kernel) (by decide +kernel)
set_option maxRecDepth 20000 in
theorem gX6_set_X6_finds : GoodIn wsX6_set (wsV RX6 37 RX6 yX6_finds wsX6_finds) := goodIn_app (goodIn_of _ (by decide +kernel)) ggX6_set_X6_finds
theorem dX6_set_0 : decode cX6_set 0 = .ok (.aload_n 0, 1) := by decide +kernel
theorem dX6_set_1 : decode cX6_set 1 = .ok (.iload_n 1, 1) := by decide +kernel
theorem dX6_set_2 : decode cX6_set 2 = .ok (.invokevirtual 88, 3) := by decide +kernel
theorem dX6_set_5 : decode cX6_set 5 = .ok (.ifCond .eq 53, 3) := by decide +kernel
theorem dX6_set_8 : decode cX6_set 8 = .ok (.iload_n 2, 1) := by decide +kernel
theorem dX6_set_9 : decode cX6_set 9 = .ok (.i2l, 1) := by decide +kernel
theorem dX6_set_10 : decode cX6_set 10 = .ok (.iconst 1, 1) := by decide +kernel
theorem dX6_set_11 : decode cX6_set 11 = .ok (.iconst 4, 1) := by decide +kernel
theorem dX6_set_12 : decode cX6_set 12 = .ok (.invokestatic 41, 3) := by decide +kernel
theorem dX6_set_15 : decode cX6_set 15 = .ok (.ifCond .eq 43, 3) := by decide +kernel
theorem dX6_set_18 : decode cX6_set 18 = .ok (.iload_n 3, 1) := by decide +kernel
theorem dX6_set_19 : decode cX6_set 19 = .ok (.i2l, 1) := by decide +kernel
theorem dX6_set_20 : decode cX6_set 20 = .ok (.iload_n 2, 1) := by decide +kernel
theorem dX6_set_21 : decode cX6_set 21 = .ok (.iconst 1, 1) := by decide +kernel
theorem dX6_set_22 : decode cX6_set 22 = .ok (.if_icmp .ne 7, 3) := by decide +kernel
theorem dX6_set_25 : decode cX6_set 25 = .ok (.iconst 1, 1) := by decide +kernel
theorem dX6_set_26 : decode cX6_set 26 = .ok (.goto 4, 3) := by decide +kernel
theorem dX6_set_29 : decode cX6_set 29 = .ok (.iconst 0, 1) := by decide +kernel
theorem dX6_set_30 : decode cX6_set 30 = .ok (.iload_n 2, 1) := by decide +kernel
theorem dX6_set_31 : decode cX6_set 31 = .ok (.iconst 2, 1) := by decide +kernel
theorem dX6_set_32 : decode cX6_set 32 = .ok (.if_icmp .eq 8, 3) := by decide +kernel
theorem dX6_set_35 : decode cX6_set 35 = .ok (.iload_n 2, 1) := by decide +kernel
theorem dX6_set_36 : decode cX6_set 36 = .ok (.iconst 3, 1) := by decide +kernel
theorem dX6_set_37 : decode cX6_set 37 = .ok (.if_icmp .ne 9, 3) := by decide +kernel
theorem dX6_set_40 : decode cX6_set 40 = .ok (.sipush 9999, 3) := by decide +kernel
theorem dX6_set_43 : decode cX6_set 43 = .ok (.goto 5, 3) := by decide +kernel
theorem dX6_set_46 : decode cX6_set 46 = .ok (.bipush 99, 2) := by decide +kernel
theorem dX6_set_48 : decode cX6_set 48 = .ok (.invokestatic 41, 3) := by decide +kernel
theorem dX6_set_51 : decode cX6_set 51 = .ok (.ifCond .eq 7, 3) := by decide +kernel
theorem dX6_set_54 : decode cX6_set 54 = .ok (.iconst 1, 1) := by decide +kernel
theorem dX6_set_55 : decode cX6_set 55 = .ok (.goto 4, 3) := by decide +kernel
theorem dX6_set_58 : decode cX6_set 58 = .ok (.iconst 0, 1) := by decide +kernel
theorem dX6_set_59 : decode cX6_set 59 = .ok (.istore 4, 2) := by decide +kernel
theorem dX6_set_61 : decode cX6_set 61 = .ok (.iload 4, 2) := by decide +kernel
theorem dX6_set_63 : decode cX6_set 63 = .ok (.ifCond .eq 19, 3) := by decide +kernel
theorem dX6_set_66 : decode cX6_set 66 = .ok (.aload_n 0, 1) := by decide +kernel
theorem dX6_set_67 : decode cX6_set 67 = .ok (.bipush 11, 2) := by decide +kernel
theorem dX6_set_69 : decode cX6_set 69 = .ok (.iconst 5, 1) := by decide +kernel
theorem dX6_set_70 : decode cX6_set 70 = .ok (.iload_n 1, 1) := by decide +kernel
theorem dX6_set_71 : decode cX6_set 71 = .ok (.imul, 1) := by decide +kernel
theorem dX6_set_72 : decode cX6_set 72 = .ok (.iadd, 1) := by decide +kernel
theorem dX6_set_73 : decode cX6_set 73 = .ok (.iload_n 2, 1) := by decide +kernel
theorem dX6_set_74 : decode cX6_set 74 = .ok (.iadd, 1) := by decide +kernel
theorem dX6_set_75 : decode cX6_set 75 = .ok (.iload_n 3, 1) := by decide +kernel
theorem dX6_set_76 : decode cX6_set 76 = .ok (.invokevirtual 66, 3) := by decide +kernel
theorem dX6_set_79 : decode cX6_set 79 = .ok (.goto 9, 3) := by decide +kernel
theorem dX6_set_82 : decode cX6_set 82 = .ok (.aload_n 0, 1) := by decide +kernel
theorem dX6_set_83 : decode cX6_set 83 = .ok (.ldc 35, 2) := by decide +kernel
theorem dX6_set_85 : decode cX6_set 85 = .ok (.invokevirtual 37, 3) := by decide +kernel
theorem dX6_set_88 : decode cX6_set 88 = .ok (.ireturn, 1) := by decide +kernel
set_option maxRecDepth 20000 in
theorem ggX6_turn_X6_isPart : GoodIn wsX6_turn wsX6_isPart := goodIn_r _ [6, 7, 8, 9, 5, 10, 20, 21, 22, 23, 24, 25, 26, 27, 28, 29, 30, 31, 32, 33, 34, 35] (by decide +kernel) (by decide +kernel)
set_option maxRecDepth 20000 in
theorem gX6_turn_X6_isPart : GoodIn wsX6_turn (wsV RX6 88 RX6 yX6_isPart wsX6_isPart) := goodIn_app (goodIn_of _ (by decide +kernel)) ggX6_turn_X6_isPart
set_option maxRecDepth 20000 in
theorem ggX6_turn_X6_in : GoodIn wsX6_turn wsX6_in := goodIn_r _ [10] (by decide +kernel) (by decide +kernel)
set_option maxRecDepth 20000 in
theorem gX6_turn_X6_in : GoodIn wsX6_turn (va_wsS RX6 41 yX6_in wsX6_in) := goodIn_app (goodIn_of _ (by decide +kernel)) ggX6_turn_X6_in
set_option maxRecDepth 20000 in
theorem ggX6_turn_X6_becomes : GoodIn wsX6_turn wsX6_becomes := goodIn_r _ [14, 7, 20, 21, 22, 23, 24, 25, 26, 27, 28, 29, 30, 31, 32, 33, 34, 35] (by decide +kernel) (by decide +kernel)
set_option maxRecDepth 20000 in
theorem gX6_turn_X6_becomes : GoodIn wsX6_turn (wsV RX6 66 RX6 yX6_becomes wsX6_becomes) := goodIn_app (goodIn_of _ (by decide +kernel)) ggX6_turn_X6_becomes
set_option maxRecDepth 20000 in
theorem ggX6_turn_X6_finds : GoodIn wsX6_turn wsX6_finds := goodIn_r _ [18, 19, 1, 20, 21, 22, 23, 24, 25, 26, 27, 28, 29, 30, 31, 32, 33, 34, 35] (by decide +kernel) (by decide +kernel)
set_option maxRecDepth 20000 in
theorem gX6_turn_X6_finds : GoodIn wsX6_turn (wsV RX6 37 RX6 yX6_finds wsX6_finds) := goodIn_app (goodIn_of _ (by decide +kernel)) ggX6_turn_X6_finds
theorem dX6_turn_0 : decode cX6_turn 0 = .ok (.aload_n 0, 1) := by decide +kernel
theorem dX6_turn_1 : decode cX6_turn 1 = .ok (.iload_n 1, 1) := by decide +kernel
theorem dX6_turn_2 : decode cX6_turn 2 = .ok (.invokevirtual 88, 3) := by decide +kernel
theorem dX6_turn_5 : decode cX6_turn 5 = .ok (.ifCond .eq 27, 3) := by decide +kernel
theorem dX6_turn_8 : decode cX6_turn 8 = .ok (.iload_n 2, 1) := by decide +kernel
theorem dX6_turn_9 : decode cX6_turn 9 = .ok (.i2l, 1) := by decide +kernel
theorem dX6_turn_10 : decode cX6_turn 10 = .ok (.iconst 0, 1) := by decide +kernel
theorem dX6_turn_11 : decode cX6_turn 11 = .ok (.iconst 5, 1) := by decide +kernel
theorem dX6_turn_12 : decode cX6_turn 12 = .ok (.invokestatic 41, 3) := by decide +kernel
theorem dX6_turn_15 : decode cX6_turn 15 = .ok (.ifCond .eq 17, 3) := by decide +kernel
theorem dX6_turn_18 : decode cX6_turn 18 = .ok (.aload_n 0, 1) := by decide +kernel
theorem dX6_turn_19 : decode cX6_turn 19 = .ok (.bipush 11, 2) := by decide +kernel
theorem dX6_turn_21 : decode cX6_turn 21 = .ok (.iconst 5, 1) := by decide +kernel
theorem dX6_turn_22 : decode cX6_turn 22 = .ok (.iload_n 1, 1) := by decide +kernel
theorem dX6_turn_23 : decode cX6_turn 23 = .ok (.imul, 1) := by decide +kernel
theorem dX6_turn_24 : decode cX6_turn 24 = .ok (.iadd, 1) := by decide +kernel
theorem dX6_turn_25 : decode cX6_turn 25 = .ok (.iload_n 2, 1) := by decide +kernel
theorem dX6_turn_26 : decode cX6_turn 26 = .ok (.invokevirtual 66, 3) := by decide +kernel
theorem dX6_turn_29 : decode cX6_turn 29 = .ok (.goto 9, 3) := by decide +kernel
theorem dX6_turn_32 : decode cX6_turn 32 = .ok (.aload_n 0, 1) := by decide +kernel
theorem dX6_turn_33 : decode cX6_turn 33 = .ok (.ldc 35, 2) := by decide +kernel
theorem dX6_turn_35 : decode cX6_turn 35 = .ok (.invokevirtual 37, 3) := by decide +kernel
theorem dX6_turn_38 : decode cX6_turn 38 = .ok (.ireturn, 1) := by decide +kernel
set_option maxRecDepth 20000 in
theorem ggX6_as_X6_isPart : GoodIn wsX6_as wsX6_isPart := goodIn_r _ [7, 8, 9, 10, 6, 11, 21, 22, 23, 24, 25, 26, 27, 28, 29, 30, 31, 32, 33, 34, 35, 36] (by decide +kernel) (by decide +kernel)
set_option maxRecDepth 20000 in
theorem gX6_as_X6_isPart : GoodIn wsX6_as (wsV RX6 88 RX6 yX6_isPart wsX6_isPart) := goodIn_app (goodIn_of _ (by decide +kernel)) ggX6_as_X6_isPart
set_option maxRecDepth 20000 in
theorem ggX6_as_X6_in : GoodIn wsX6_as wsX6_in := goodIn_r _ [11] (by decide +kernel) (by decide +kernel)
set_option maxRecDepth 20000 in
theorem gX6_as_X6_in : GoodIn wsX6_as (va_wsS RX6 41 yX6_in wsX6_in) := goodIn_app (goodIn_of _ (by decide +kernel)) ggX6_as_X6_in
set_option maxRecDepth 20000 in
theorem ggX6_as_X6_finds : GoodIn wsX6_as wsX6_finds := goodIn_r _ [15, 16, 1, 21, 22, 23, 24, 25, 26, 27, 28, 29, 30, 31, 32, 33, 34, 35, 36] (by decide +kernel) (by decide +kernel)
set_option maxRecDepth 20000 in
theorem gX6_as_X6_finds : GoodIn wsX6_as (wsV RX6 37 RX6 yX6_finds wsX6_finds) := goodIn_app (goodIn_of _ (by decide +kernel)) ggX6_as_X6_finds
set_option maxRecDepth 20000 in
theorem ggX6_as_X6_it : GoodIn wsX6_as wsX6_it := goodIn_r _ [20, 8, 21, 22, 23, 24, 25, 26, 27, 28, 29, 30, 31, 32, 33, 34, 35, 36] (by decide +kernel) (by decide +kernel)
set_option maxRecDepth 20000 in
theorem gX6_as_X6_it : GoodIn wsX6_as (wsV RX6 45 RX6 yX6_it wsX6_it) := goodIn_app (goodIn_of _ (by decide +kernel)) ggX6_as_X6_it
theorem dX6_as_0 : decode cX6_as 0 = .ok (.aload_n 0, 1) := by decide +kernel
theorem dX6_as_1 : decode cX6_as 1 = .ok (.iload_n 1, 1) := by decide +kernel
theorem dX6_as_2 : decode cX6_as 2 = .ok (.invokevirtual 88, 3) := by decide +kernel
theorem dX6_as_5 : decode cX6_as 5 = .ok (.ifCond .eq 13, 3) := by decide +kernel
theorem dX6_as_8 : decode cX6_as 8 = .ok (.iload_n 2, 1) := by decide +kernel
theorem dX6_as_9 : decode cX6_as 9 = .ok (.i2l, 1) := by decide +kernel
theorem dX6_as_10 : decode cX6_as 10 = .ok (.iconst 0, 1) := by decide +kernel
theorem dX6_as_11 : decode cX6_as 11 = .ok (.iconst 5, 1) := by decide +kernel
theorem dX6_as_12 : decode cX6_as 12 = .ok (.invokestatic 41, 3) := by decide +kernel
theorem dX6_as_15 : decode cX6_as 15 = .ok (.ifCond .ne 10, 3) := by decide +kernel
theorem dX6_as_18 : decode cX6_as 18 = .ok (.aload_n 0, 1) := by decide +kernel
theorem dX6_as_19 : decode cX6_as 19 = .ok (.ldc 35, 2) := by decide +kernel
theorem dX6_as_21 : decode cX6_as 21 = .ok (.invokevirtual 37, 3) := by decide +kernel
theorem dX6_as_24 : decode cX6_as 24 = .ok (.ireturn, 1) := by decide +kernel
theorem dX6_as_25 : decode cX6_as 25 = .ok (.aload_n 0, 1) := by decide +kernel
theorem dX6_as_26 : decode cX6_as 26 = .ok (.iload_n 1, 1) := by decide +kernel
theorem dX6_as_27 : decode cX6_as 27 = .ok (.iconst 0, 1) := by decide +kernel
theorem dX6_as_28 : decode cX6_as 28 = .ok (.invokevirtual 45, 3) := by decide +kernel
theorem dX6_as_31 : decode cX6_as 31 = .ok (.istore_n 3, 1) := by decide +kernel
theorem dX6_as_32 : decode cX6_as 32 = .ok (.iload_n 2, 1) := by decide +kernel
theorem dX6_as_33 : decode cX6_as 33 = .ok (.ifCond .eq 28, 3) := by decide +kernel
theorem dX6_as_36 : decode cX6_as 36 = .ok (.iload_n 2, 1) := by decide +kernel
theorem dX6_as_37 : decode cX6_as 37 = .ok (.iload_n 3, 1) := by decide +kernel
theorem dX6_as_38 : decode cX6_as 38 = .ok (.if_icmp .eq 23, 3) := by decide +kernel
theorem dX6_as_41 : decode cX6_as 41 = .ok (.iload_n 2, 1) := by decide +kernel
theorem dX6_as_42 : decode cX6_as 42 = .ok (.iconst 1, 1) := by decide +kernel
theorem dX6_as_43 : decode cX6_as 43 = .ok (.if_icmp .ne 8, 3) := by decide +kernel
theorem dX6_as_46 : decode cX6_as 46 = .ok (.iload_n 3, 1) := by decide +kernel
theorem dX6_as_47 : decode cX6_as 47 = .ok (.iconst 4, 1) := by decide +kernel
theorem dX6_as_48 : decode cX6_as 48 = .ok (.if_icmp .eq 13, 3) := by decide +kernel
theorem dX6_as_51 : decode cX6_as 51 = .ok (.iload_n 2, 1) := by decide +kernel
theorem dX6_as_52 : decode cX6_as 52 = .ok (.iconst 2, 1) := by decide +kernel
theorem dX6_as_53 : decode cX6_as 53 = .ok (.if_icmp .ne 12, 3) := by decide +kernel
theorem dX6_as_56 : decode cX6_as 56 = .ok (.iload_n 3, 1) := by decide +kernel
theorem dX6_as_57 : decode cX6_as 57 = .ok (.iconst 5, 1) := by decide +kernel
theorem dX6_as_58 : decode cX6_as 58 = .ok (.if_icmp .ne 7, 3) := by decide +kernel
theorem dX6_as_61 : decode cX6_as 61 = .ok (.iconst 1, 1) := by decide +kernel
theorem dX6_as_62 : decode cX6_as 62 = .ok (.goto 4, 3) := by decide +kernel
theorem dX6_as_65 : decode cX6_as 65 = .ok (.iconst 0, 1) := by decide +kernel
theorem dX6_as_66 : decode cX6_as 66 = .ok (.istore 4, 2) := by decide +kernel
theorem dX6_as_68 : decode cX6_as 68 = .ok (.iload 4, 2) := by decide +kernel
theorem dX6_as_70 : decode cX6_as 70 = .ok (.ifCond .eq 12, 3) := by decide +kernel
theorem dX6_as_73 : decode cX6_as 73 = .ok (.aload_n 0, 1) := by decide +kernel
theorem dX6_as_74 : decode cX6_as 74 = .ok (.iload_n 1, 1) := by decide +kernel
theorem dX6_as_75 : decode cX6_as 75 = .ok (.iconst 2, 1) := by decide +kernel
theorem dX6_as_76 : decode cX6_as 76 = .ok (.invokevirtual 45, 3) := by decide +kernel
theorem dX6_as_79 : decode cX6_as 79 = .ok (.goto 9, 3) := by decide +kernel
theorem dX6_as_82 : decode cX6_as 82 = .ok (.aload_n 0, 1) := by decide +kernel
theorem dX6_as_83 : decode cX6_as 83 = .ok (.ldc 97, 2) := by decide +kernel
theorem dX6_as_85 : decode cX6_as 85 = .ok (.invokevirtual 37, 3) := by decide +kernel
theorem dX6_as_88 : decode cX6_as 88 = .ok (.ireturn, 1) := by decide +kernel
set_option maxRecDepth 20000 in
theorem ggX6_left_X6_isPart : GoodIn wsX6_left wsX6_isPart := goodIn_r _ [6, 7, 8, 9, 5, 10, 27, 28, 29, 30, 31, 32, 33, 34, 35, 36, 37, 38, 39, 40, 41, 42] (by decide +kernel) (by decide +kernel)
set_option maxRecDepth 20000 in
theorem gX6_left_X6_isPart : GoodIn wsX6_left (wsV RX6 88 RX6 yX6_isPart wsX6_isPart) := goodIn_app (goodIn_of _ (by decide +kernel)) ggX6_left_X6_isPart
set_option maxRecDepth 20000 in
theorem ggX6_left_X6_needs : GoodIn wsX6_left wsX6_needs := goodIn_r _ [14, 15, 16, 17, 5, 18, 7, 27, 28, 29, 30, 31, 32, 33, 34, 35, 36, 37, 38, 39, 40, 41, 42] (by decide +kernel) (by decide +kernel)
set_option maxRecDepth 20000 in
theorem gX6_left_X6_needs : GoodIn wsX6_left (wsV RX6 49 RX6 yX6_needs wsX6_needs) := goodIn_app (goodIn_of _ (by decide +kernel)) ggX6_left_X6_needs
set_option maxRecDepth 20000 in
theorem ggX6_left_X6_it : GoodIn wsX6_left wsX6_it := goodIn_r _ [18, 7, 27, 28, 29, 30, 31, 32, 33, 34, 35, 36, 37, 38, 39, 40, 41, 42] (by decide +kernel) (by decide +kernel)
set_option maxRecDepth 20000 in
theorem gX6_left_X6_it : GoodIn wsX6_left (wsV RX6 45 RX6 yX6_it wsX6_it) := goodIn_app (goodIn_of _ (by decide +kernel)) ggX6_left_X6_it
set_option maxRecDepth 20000 in
theorem ggX6_left_X6_held : GoodIn wsX6_left wsX6_held := goodIn_r _ [21] (by decide +kernel) (by decide +kernel)
set_option maxRecDepth 20000 in
theorem gX6_left_X6_held : GoodIn wsX6_left (va_wsS RX6 98 yX6_held wsX6_held) := goodIn_app (goodIn_of _ (by decide +kernel)) ggX6_left_X6_held
set_option maxRecDepth 20000 in
theorem ggX6_left_X6_finds : GoodIn wsX6_left wsX6_finds := goodIn_r _ [25, 26, 1, 27, 28, 29, 30, 31, 32, 33, 34, 35, 36, 37, 38, 39, 40, 41, 42] (by decide +kernel) (by decide +kernel)
set_option maxRecDepth 20000 in
theorem gX6_left_X6_finds : GoodIn wsX6_left (wsV RX6 37 RX6 yX6_finds wsX6_finds) := goodIn_app (goodIn_of _ (by decide +kernel)) ggX6_left_X6_finds
theorem dX6_left_0 : decode cX6_left 0 = .ok (.aload_n 0, 1) := by decide +kernel
theorem dX6_left_1 : decode cX6_left 1 = .ok (.iload_n 1, 1) := by decide +kernel
theorem dX6_left_2 : decode cX6_left 2 = .ok (.invokevirtual 88, 3) := by decide +kernel
theorem dX6_left_5 : decode cX6_left 5 = .ok (.ifCond .eq 25, 3) := by decide +kernel
theorem dX6_left_8 : decode cX6_left 8 = .ok (.aload_n 0, 1) := by decide +kernel
theorem dX6_left_9 : decode cX6_left 9 = .ok (.iload_n 1, 1) := by decide +kernel
theorem dX6_left_10 : decode cX6_left 10 = .ok (.invokevirtual 49, 3) := by decide +kernel
theorem dX6_left_13 : decode cX6_left 13 = .ok (.aload_n 0, 1) := by decide +kernel
theorem dX6_left_14 : decode cX6_left 14 = .ok (.iload_n 1, 1) := by decide +kernel
theorem dX6_left_15 : decode cX6_left 15 = .ok (.iconst 2, 1) := by decide +kernel
theorem dX6_left_16 : decode cX6_left 16 = .ok (.invokevirtual 45, 3) := by decide +kernel
theorem dX6_left_19 : decode cX6_left 19 = .ok (.isub, 1) := by decide +kernel
theorem dX6_left_20 : decode cX6_left 20 = .ok (.iconst 0, 1) := by decide +kernel
theorem dX6_left_21 : decode cX6_left 21 = .ok (.sipush 9999, 3) := by decide +kernel
theorem dX6_left_24 : decode cX6_left 24 = .ok (.invokestatic 98, 3) := by decide +kernel
theorem dX6_left_27 : decode cX6_left 27 = .ok (.goto 9, 3) := by decide +kernel
theorem dX6_left_30 : decode cX6_left 30 = .ok (.aload_n 0, 1) := by decide +kernel
theorem dX6_left_31 : decode cX6_left 31 = .ok (.ldc 35, 2) := by decide +kernel
theorem dX6_left_33 : decode cX6_left 33 = .ok (.invokevirtual 37, 3) := by decide +kernel
theorem dX6_left_36 : decode cX6_left 36 = .ok (.ireturn, 1) := by decide +kernel
set_option maxRecDepth 20000 in
theorem ggX6_goes_X6_loudest : GoodIn wsX6_goes wsX6_loudest := goodIn_r _ [7, 2, 8, 9, 10, 6, 11, 12, 13, 14, 15, 16, 17, 18, 19, 20, 21, 22, 23, 24, 25, 26, 27, 47, 48, 49, 50, 51, 52, 53, 54, 55, 56, 57, 58, 59, 60, 61, 62] (by decide +kernel) (by decide +kernel)
set_option maxRecDepth 20000 in
theorem gX6_goes_X6_loudest : GoodIn wsX6_goes (wsV RX6 69 RX6 yX6_loudest wsX6_loudest) := goodIn_app (goodIn_of _ (by decide +kernel)) ggX6_goes_X6_loudest
set_option maxRecDepth 20000 in
theorem ggX6_goes_X6_it : GoodIn wsX6_goes wsX6_it := goodIn_r _ [15, 2, 47, 48, 49, 50, 51, 52, 53, 54, 55, 56, 57, 58, 59, 60, 61, 62] (by decide +kernel) (by decide +kernel)
set_option maxRecDepth 20000 in
theorem gX6_goes_X6_it : GoodIn wsX6_goes (wsV RX6 45 RX6 yX6_it wsX6_it) := goodIn_app (goodIn_of _ (by decide +kernel)) ggX6_goes_X6_it
set_option maxRecDepth 20000 in
theorem ggX6_goes_X6_gives : GoodIn wsX6_goes wsX6_gives := goodIn_r _ [31, 2, 32, 33, 34, 6, 35, 12, 13, 14, 15, 47, 48, 49, 50, 51, 52, 53, 54, 55, 56, 57, 58, 59, 60, 61, 62] (by decide +kernel) (by decide +kernel)
set_option maxRecDepth 20000 in
theorem gX6_goes_X6_gives : GoodIn wsX6_goes (wsV RX6 91 RX6 yX6_gives wsX6_gives) := goodIn_app (goodIn_of _ (by decide +kernel)) ggX6_goes_X6_gives
set_option maxRecDepth 20000 in
theorem ggX6_goes_X6_held : GoodIn wsX6_goes wsX6_held := goodIn_r _ [38] (by decide +kernel) (by decide +kernel)
set_option maxRecDepth 20000 in
theorem gX6_goes_X6_held : GoodIn wsX6_goes (va_wsS RX6 98 yX6_held wsX6_held) := goodIn_app (goodIn_of _ (by decide +kernel)) ggX6_goes_X6_held
set_option maxRecDepth 20000 in
theorem ggX6_goes_X6_put : GoodIn wsX6_goes wsX6_put := goodIn_r _ [42, 2, 47, 48, 49, 50, 51, 52, 53, 54, 55, 56, 57, 58, 59, 60, 61, 62] (by decide +kernel) (by decide +kernel)
set_option maxRecDepth 20000 in
theorem gX6_goes_X6_put : GoodIn wsX6_goes (wsV RX6 79 RX6 yX6_put wsX6_put) := goodIn_app (goodIn_of _ (by decide +kernel)) ggX6_goes_X6_put
set_option maxRecDepth 20000 in
theorem ggX6_goes_X6_tires : GoodIn wsX6_goes wsX6_tires := goodIn_r _ [46, 12, 13, 14, 6, 15, 2, 47, 48, 49, 50, 51, 52, 53, 54, 55, 56, 57, 58, 59, 60, 61, 62] (by decide +kernel) (by decide +kernel)
set_option maxRecDepth 20000 in
theorem gX6_goes_X6_tires : GoodIn wsX6_goes (wsV RX6 94 RX6 yX6_tires wsX6_tires) := goodIn_app (goodIn_of _ (by decide +kernel)) ggX6_goes_X6_tires
set_option maxRecDepth 20000 in
theorem ggX6_goes_X6_isDone : GoodIn wsX6_goes wsX6_isDone := goodIn_r _ [11, 12, 13, 14, 6, 15, 2, 16, 17, 18, 19, 47, 48, 49, 50, 51, 52, 53, 54, 55, 56, 57, 58, 59, 60, 61, 62] (by decide +kernel) (by decide +kernel)
set_option maxRecDepth 20000 in
theorem gX6_goes_X6_isDone : GoodIn wsX6_goes (wsV RX6 56 RX6 yX6_isDone wsX6_isDone) := goodIn_app (goodIn_of _ (by decide +kernel)) ggX6_goes_X6_isDone
set_option maxRecDepth 20000 in
theorem ggX6_goes_X6_isHoliday : GoodIn wsX6_goes wsX6_isHoliday := goodIn_r _ [35, 2, 47, 48, 49, 50, 51, 52, 53, 54, 55, 56, 57, 58, 59, 60, 61, 62] (by decide +kernel) (by decide +kernel)
set_option maxRecDepth 20000 in
theorem gX6_goes_X6_isHoliday : GoodIn wsX6_goes (wsV RX6 52 RX6 yX6_isHoliday wsX6_isHoliday) := goodIn_app (goodIn_of _ (by decide +kernel)) ggX6_goes_X6_isHoliday
theorem dX6_goes_0 : decode cX6_goes 0 = .ok (.aload_n 0, 1) := by decide +kernel
theorem dX6_goes_1 : decode cX6_goes 1 = .ok (.aload_n 0, 1) := by decide +kernel
theorem dX6_goes_2 : decode cX6_goes 2 = .ok (.invokevirtual 69, 3) := by decide +kernel
theorem dX6_goes_5 : decode cX6_goes 5 = .ok (.putfield 102, 3) := by decide +kernel
theorem dX6_goes_8 : decode cX6_goes 8 = .ok (.bipush (-10), 2) := by decide +kernel
theorem dX6_goes_10 : decode cX6_goes 10 = .ok (.istore_n 1, 1) := by decide +kernel
theorem dX6_goes_11 : decode cX6_goes 11 = .ok (.aload_n 0, 1) := by decide +kernel
theorem dX6_goes_12 : decode cX6_goes 12 = .ok (.getfield 102, 3) := by decide +kernel
theorem dX6_goes_15 : decode cX6_goes 15 = .ok (.ifCond .lt 100, 3) := by decide +kernel
theorem dX6_goes_18 : decode cX6_goes 18 = .ok (.aload_n 0, 1) := by decide +kernel
theorem dX6_goes_19 : decode cX6_goes 19 = .ok (.aload_n 0, 1) := by decide +kernel
theorem dX6_goes_20 : decode cX6_goes 20 = .ok (.getfield 102, 3) := by decide +kernel
theorem dX6_goes_23 : decode cX6_goes 23 = .ok (.iconst 2, 1) := by decide +kernel
theorem dX6_goes_24 : decode cX6_goes 24 = .ok (.aload_n 0, 1) := by decide +kernel
theorem dX6_goes_25 : decode cX6_goes 25 = .ok (.aload_n 0, 1) := by decide +kernel
theorem dX6_goes_26 : decode cX6_goes 26 = .ok (.getfield 102, 3) := by decide +kernel
theorem dX6_goes_29 : decode cX6_goes 29 = .ok (.iconst 2, 1) := by decide +kernel
theorem dX6_goes_30 : decode cX6_goes 30 = .ok (.invokevirtual 45, 3) := by decide +kernel
theorem dX6_goes_33 : decode cX6_goes 33 = .ok (.aload_n 0, 1) := by decide +kernel
theorem dX6_goes_34 : decode cX6_goes 34 = .ok (.aload_n 0, 1) := by decide +kernel
theorem dX6_goes_35 : decode cX6_goes 35 = .ok (.getfield 102, 3) := by decide +kernel
theorem dX6_goes_38 : decode cX6_goes 38 = .ok (.invokevirtual 91, 3) := by decide +kernel
theorem dX6_goes_41 : decode cX6_goes 41 = .ok (.iadd, 1) := by decide +kernel
theorem dX6_goes_42 : decode cX6_goes 42 = .ok (.iconst 0, 1) := by decide +kernel
theorem dX6_goes_43 : decode cX6_goes 43 = .ok (.sipush 9999, 3) := by decide +kernel
theorem dX6_goes_46 : decode cX6_goes 46 = .ok (.invokestatic 98, 3) := by decide +kernel
theorem dX6_goes_49 : decode cX6_goes 49 = .ok (.invokevirtual 79, 3) := by decide +kernel
theorem dX6_goes_52 : decode cX6_goes 52 = .ok (.aload_n 0, 1) := by decide +kernel
theorem dX6_goes_53 : decode cX6_goes 53 = .ok (.aload_n 0, 1) := by decide +kernel
theorem dX6_goes_54 : decode cX6_goes 54 = .ok (.getfield 102, 3) := by decide +kernel
theorem dX6_goes_57 : decode cX6_goes 57 = .ok (.invokevirtual 94, 3) := by decide +kernel
theorem dX6_goes_60 : decode cX6_goes 60 = .ok (.istore_n 1, 1) := by decide +kernel
theorem dX6_goes_61 : decode cX6_goes 61 = .ok (.aload_n 0, 1) := by decide +kernel
theorem dX6_goes_62 : decode cX6_goes 62 = .ok (.getfield 9, 3) := by decide +kernel
theorem dX6_goes_65 : decode cX6_goes 65 = .ok (.iconst 2, 1) := by decide +kernel
theorem dX6_goes_66 : decode cX6_goes 66 = .ok (.aload_n 0, 1) := by decide +kernel
theorem dX6_goes_67 : decode cX6_goes 67 = .ok (.getfield 9, 3) := by decide +kernel
theorem dX6_goes_70 : decode cX6_goes 70 = .ok (.iconst 2, 1) := by decide +kernel
theorem dX6_goes_71 : decode cX6_goes 71 = .ok (.iaload, 1) := by decide +kernel
theorem dX6_goes_72 : decode cX6_goes 72 = .ok (.aload_n 0, 1) := by decide +kernel
theorem dX6_goes_73 : decode cX6_goes 73 = .ok (.aload_n 0, 1) := by decide +kernel
theorem dX6_goes_74 : decode cX6_goes 74 = .ok (.getfield 102, 3) := by decide +kernel
theorem dX6_goes_77 : decode cX6_goes 77 = .ok (.invokevirtual 56, 3) := by decide +kernel
theorem dX6_goes_80 : decode cX6_goes 80 = .ok (.ifCond .eq 25, 3) := by decide +kernel
theorem dX6_goes_83 : decode cX6_goes 83 = .ok (.aload_n 0, 1) := by decide +kernel
theorem dX6_goes_84 : decode cX6_goes 84 = .ok (.getfield 9, 3) := by decide +kernel
theorem dX6_goes_87 : decode cX6_goes 87 = .ok (.iconst 0, 1) := by decide +kernel
theorem dX6_goes_88 : decode cX6_goes 88 = .ok (.iaload, 1) := by decide +kernel
theorem dX6_goes_89 : decode cX6_goes 89 = .ok (.aload_n 0, 1) := by decide +kernel
theorem dX6_goes_90 : decode cX6_goes 90 = .ok (.aload_n 0, 1) := by decide +kernel
theorem dX6_goes_91 : decode cX6_goes 91 = .ok (.getfield 102, 3) := by decide +kernel
theorem dX6_goes_94 : decode cX6_goes 94 = .ok (.iconst 3, 1) := by decide +kernel
theorem dX6_goes_95 : decode cX6_goes 95 = .ok (.invokevirtual 45, 3) := by decide +kernel
theorem dX6_goes_98 : decode cX6_goes 98 = .ok (.if_icmp .le 7, 3) := by decide +kernel
theorem dX6_goes_101 : decode cX6_goes 101 = .ok (.iconst 1, 1) := by decide +kernel
theorem dX6_goes_102 : decode cX6_goes 102 = .ok (.goto 4, 3) := by decide +kernel
theorem dX6_goes_105 : decode cX6_goes 105 = .ok (.iconst 0, 1) := by decide +kernel
theorem dX6_goes_106 : decode cX6_goes 106 = .ok (.iadd, 1) := by decide +kernel
theorem dX6_goes_107 : decode cX6_goes 107 = .ok (.iconst 0, 1) := by decide +kernel
theorem dX6_goes_108 : decode cX6_goes 108 = .ok (.sipush 9999, 3) := by decide +kernel
theorem dX6_goes_111 : decode cX6_goes 111 = .ok (.invokestatic 98, 3) := by decide +kernel
theorem dX6_goes_114 : decode cX6_goes 114 = .ok (.iastore, 1) := by decide +kernel
theorem dX6_goes_115 : decode cX6_goes 115 = .ok (.aload_n 0, 1) := by decide +kernel
theorem dX6_goes_116 : decode cX6_goes 116 = .ok (.getfield 9, 3) := by decide +kernel
theorem dX6_goes_119 : decode cX6_goes 119 = .ok (.iconst 1, 1) := by decide +kernel
theorem dX6_goes_120 : decode cX6_goes 120 = .ok (.aload_n 0, 1) := by decide +kernel
theorem dX6_goes_121 : decode cX6_goes 121 = .ok (.getfield 9, 3) := by decide +kernel
theorem dX6_goes_124 : decode cX6_goes 124 = .ok (.iconst 1, 1) := by decide +kernel
theorem dX6_goes_125 : decode cX6_goes 125 = .ok (.iaload, 1) := by decide +kernel
theorem dX6_goes_126 : decode cX6_goes 126 = .ok (.iload_n 1, 1) := by decide +kernel
theorem dX6_goes_127 : decode cX6_goes 127 = .ok (.iadd, 1) := by decide +kernel
theorem dX6_goes_128 : decode cX6_goes 128 = .ok (.iconst 0, 1) := by decide +kernel
theorem dX6_goes_129 : decode cX6_goes 129 = .ok (.bipush 99, 2) := by decide +kernel
theorem dX6_goes_131 : decode cX6_goes 131 = .ok (.invokestatic 98, 3) := by decide +kernel
theorem dX6_goes_134 : decode cX6_goes 134 = .ok (.iastore, 1) := by decide +kernel
theorem dX6_goes_135 : decode cX6_goes 135 = .ok (.aload_n 0, 1) := by decide +kernel
theorem dX6_goes_136 : decode cX6_goes 136 = .ok (.getfield 9, 3) := by decide +kernel
theorem dX6_goes_139 : decode cX6_goes 139 = .ok (.iconst 1, 1) := by decide +kernel
theorem dX6_goes_140 : decode cX6_goes 140 = .ok (.aload_n 0, 1) := by decide +kernel
theorem dX6_goes_141 : decode cX6_goes 141 = .ok (.getfield 9, 3) := by decide +kernel
theorem dX6_goes_144 : decode cX6_goes 144 = .ok (.iconst 1, 1) := by decide +kernel
theorem dX6_goes_145 : decode cX6_goes 145 = .ok (.iaload, 1) := by decide +kernel
theorem dX6_goes_146 : decode cX6_goes 146 = .ok (.aload_n 0, 1) := by decide +kernel
theorem dX6_goes_147 : decode cX6_goes 147 = .ok (.invokevirtual 52, 3) := by decide +kernel
theorem dX6_goes_150 : decode cX6_goes 150 = .ok (.ifCond .eq 7, 3) := by decide +kernel
theorem dX6_goes_153 : decode cX6_goes 153 = .ok (.iconst 4, 1) := by decide +kernel
theorem dX6_goes_154 : decode cX6_goes 154 = .ok (.goto 4, 3) := by decide +kernel
theorem dX6_goes_157 : decode cX6_goes 157 = .ok (.iconst 0, 1) := by decide +kernel
theorem dX6_goes_158 : decode cX6_goes 158 = .ok (.isub, 1) := by decide +kernel
theorem dX6_goes_159 : decode cX6_goes 159 = .ok (.iconst 0, 1) := by decide +kernel
theorem dX6_goes_160 : decode cX6_goes 160 = .ok (.bipush 99, 2) := by decide +kernel
theorem dX6_goes_162 : decode cX6_goes 162 = .ok (.invokestatic 98, 3) := by decide +kernel
theorem dX6_goes_165 : decode cX6_goes 165 = .ok (.iastore, 1) := by decide +kernel
theorem dX6_goes_166 : decode cX6_goes 166 = .ok (.iconst 0, 1) := by decide +kernel
theorem dX6_goes_167 : decode cX6_goes 167 = .ok (.istore_n 2, 1) := by decide +kernel
theorem dX6_goes_168 : decode cX6_goes 168 = .ok (.iload_n 2, 1) := by decide +kernel
theorem dX6_goes_169 : decode cX6_goes 169 = .ok (.aload_n 0, 1) := by decide +kernel
theorem dX6_goes_170 : decode cX6_goes 170 = .ok (.getfield 9, 3) := by decide +kernel
theorem dX6_goes_173 : decode cX6_goes 173 = .ok (.iconst 3, 1) := by decide +kernel
theorem dX6_goes_174 : decode cX6_goes 174 = .ok (.iaload, 1) := by decide +kernel
theorem dX6_goes_175 : decode cX6_goes 175 = .ok (.if_icmp .ge 29, 3) := by decide +kernel
theorem dX6_goes_178 : decode cX6_goes 178 = .ok (.aload_n 0, 1) := by decide +kernel
theorem dX6_goes_179 : decode cX6_goes 179 = .ok (.iload_n 2, 1) := by decide +kernel
theorem dX6_goes_180 : decode cX6_goes 180 = .ok (.iconst 4, 1) := by decide +kernel
theorem dX6_goes_181 : decode cX6_goes 181 = .ok (.aload_n 0, 1) := by decide +kernel
theorem dX6_goes_182 : decode cX6_goes 182 = .ok (.iload_n 2, 1) := by decide +kernel
theorem dX6_goes_183 : decode cX6_goes 183 = .ok (.iconst 4, 1) := by decide +kernel
theorem dX6_goes_184 : decode cX6_goes 184 = .ok (.invokevirtual 45, 3) := by decide +kernel
theorem dX6_goes_187 : decode cX6_goes 187 = .ok (.iconst 1, 1) := by decide +kernel
theorem dX6_goes_188 : decode cX6_goes 188 = .ok (.isub, 1) := by decide +kernel
theorem dX6_goes_189 : decode cX6_goes 189 = .ok (.iconst 0, 1) := by decide +kernel
theorem dX6_goes_190 : decode cX6_goes 190 = .ok (.bipush 99, 2) := by decide +kernel
theorem dX6_goes_192 : decode cX6_goes 192 = .ok (.invokestatic 98, 3) := by decide +kernel
theorem dX6_goes_195 : decode cX6_goes 195 = .ok (.invokevirtual 79, 3) := by decide +kernel
theorem dX6_goes_198 : decode cX6_goes 198 = .ok (.iinc 2 1, 3) := by decide +kernel
theorem dX6_goes_201 : decode cX6_goes 201 = .ok (.goto (-33), 3) := by decide +kernel
theorem dX6_goes_204 : decode cX6_goes 204 = .ok (.aload_n 0, 1) := by decide +kernel
theorem dX6_goes_205 : decode cX6_goes 205 = .ok (.getfield 9, 3) := by decide +kernel
theorem dX6_goes_208 : decode cX6_goes 208 = .ok (.iconst 0, 1) := by decide +kernel
theorem dX6_goes_209 : decode cX6_goes 209 = .ok (.dup2, 1) := by decide +kernel
theorem dX6_goes_210 : decode cX6_goes 210 = .ok (.iaload, 1) := by decide +kernel
theorem dX6_goes_211 : decode cX6_goes 211 = .ok (.iconst 1, 1) := by decide +kernel
theorem dX6_goes_212 : decode cX6_goes 212 = .ok (.iadd, 1) := by decide +kernel
theorem dX6_goes_213 : decode cX6_goes 213 = .ok (.iastore, 1) := by decide +kernel
theorem dX6_goes_214 : decode cX6_goes 214 = .ok (.return_, 1) := by decide +kernel
set_option maxRecDepth 20000 in
theorem ggX6_goesFor_X6_goes : GoodIn wsX6_goesFor wsX6_goes := goodIn_r _ [5, 6, 7, 8, 9, 10, 4, 11, 12, 13, 14, 15, 16, 17, 18, 19, 20, 21, 22, 23, 24, 25, 26, 27, 28, 29, 30, 31, 32, 33, 34, 35, 36, 37, 38, 39, 40, 41, 42, 43, 44, 45, 46, 47, 48, 49, 50, 51, 52, 53, 54, 55, 56, 57, 58, 59, 60, 61, 62, 63, 64, 65, 66] (by decide +kernel) (by decide +kernel)
set_option maxRecDepth 20000 in
theorem gX6_goesFor_X6_goes : GoodIn wsX6_goesFor (wsV RX6 106 RX6 yX6_goes wsX6_goes) := goodIn_app (goodIn_of _ (by decide +kernel)) ggX6_goesFor_X6_goes
theorem dX6_goesFor_0 : decode cX6_goesFor 0 = .ok (.iconst 0, 1) := by decide +kernel
theorem dX6_goesFor_1 : decode cX6_goesFor 1 = .ok (.istore_n 2, 1) := by decide +kernel
theorem dX6_goesFor_2 : decode cX6_goesFor 2 = .ok (.iload_n 2, 1) := by decide +kernel
theorem dX6_goesFor_3 : decode cX6_goesFor 3 = .ok (.iload_n 1, 1) := by decide +kernel
theorem dX6_goesFor_4 : decode cX6_goesFor 4 = .ok (.if_icmp .ge 13, 3) := by decide +kernel
theorem dX6_goesFor_7 : decode cX6_goesFor 7 = .ok (.aload_n 0, 1) := by decide +kernel
theorem dX6_goesFor_8 : decode cX6_goesFor 8 = .ok (.invokevirtual 106, 3) := by decide +kernel
theorem dX6_goesFor_11 : decode cX6_goesFor 11 = .ok (.iinc 2 1, 3) := by decide +kernel
theorem dX6_goesFor_14 : decode cX6_goesFor 14 = .ok (.goto (-12), 3) := by decide +kernel
theorem dX6_goesFor_17 : decode cX6_goesFor 17 = .ok (.return_, 1) := by decide +kernel
set_option maxRecDepth 20000 in
theorem ggX6_days_X6_in : GoodIn wsX6_days wsX6_in := goodIn_r _ [7] (by decide +kernel) (by decide +kernel)
set_option maxRecDepth 20000 in
theorem gX6_days_X6_in : GoodIn wsX6_days (va_wsS RX6 41 yX6_in wsX6_in) := goodIn_app (goodIn_of _ (by decide +kernel)) ggX6_days_X6_in
set_option maxRecDepth 20000 in
theorem ggX6_days_X6_finds : GoodIn wsX6_days wsX6_finds := goodIn_r _ [11, 12, 1, 69, 70, 71, 72, 73, 74, 75, 76, 77, 78, 79, 80, 81, 82, 83, 84] (by decide +kernel) (by decide +kernel)
set_option maxRecDepth 20000 in
theorem gX6_days_X6_finds : GoodIn wsX6_days (wsV RX6 37 RX6 yX6_finds wsX6_finds) := goodIn_app (goodIn_of _ (by decide +kernel)) ggX6_days_X6_finds
set_option maxRecDepth 20000 in
theorem ggX6_days_X6_goesFor : GoodIn wsX6_days wsX6_goesFor := goodIn_r _ [16, 17, 18, 19, 6, 20, 21, 2, 22, 23, 24, 25, 26, 27, 28, 29, 30, 31, 32, 33, 34, 35, 36, 37, 38, 39, 40, 41, 42, 43, 44, 45, 46, 47, 48, 49, 50, 51, 52, 53, 54, 55, 56, 57, 58, 59, 60, 61, 62, 63, 64, 69, 70, 71, 72, 73, 74, 75, 76, 77, 78, 79, 80, 81, 82, 83, 84] (by decide +kernel) (by decide +kernel)
set_option maxRecDepth 20000 in
theorem gX6_days_X6_goesFor : GoodIn wsX6_days (wsV RX6 110 RX6 yX6_goesFor wsX6_goesFor) := goodIn_app (goodIn_of _ (by decide +kernel)) ggX6_days_X6_goesFor
set_option maxRecDepth 20000 in
theorem ggX6_days_X6_doneOnes : GoodIn wsX6_days wsX6_doneOnes := goodIn_r _ [68, 2, 26, 27, 28, 6, 29, 30, 31, 32, 33, 34, 35, 36, 37, 69, 70, 71, 72, 73, 74, 75, 76, 77, 78, 79, 80, 81, 82, 83, 84] (by decide +kernel) (by decide +kernel)
set_option maxRecDepth 20000 in
theorem gX6_days_X6_doneOnes : GoodIn wsX6_days (wsV RX6 73 RX6 yX6_doneOnes wsX6_doneOnes) := goodIn_app (goodIn_of _ (by decide +kernel)) ggX6_days_X6_doneOnes
theorem dX6_days_0 : decode cX6_days 0 = .ok (.iload_n 1, 1) := by decide +kernel
theorem dX6_days_1 : decode cX6_days 1 = .ok (.i2l, 1) := by decide +kernel
theorem dX6_days_2 : decode cX6_days 2 = .ok (.iconst 1, 1) := by decide +kernel
theorem dX6_days_3 : decode cX6_days 3 = .ok (.bipush 100, 2) := by decide +kernel
theorem dX6_days_5 : decode cX6_days 5 = .ok (.invokestatic 41, 3) := by decide +kernel
theorem dX6_days_8 : decode cX6_days 8 = .ok (.ifCond .ne 10, 3) := by decide +kernel
theorem dX6_days_11 : decode cX6_days 11 = .ok (.aload_n 0, 1) := by decide +kernel
theorem dX6_days_12 : decode cX6_days 12 = .ok (.ldc 35, 2) := by decide +kernel
theorem dX6_days_14 : decode cX6_days 14 = .ok (.invokevirtual 37, 3) := by decide +kernel
theorem dX6_days_17 : decode cX6_days 17 = .ok (.ireturn, 1) := by decide +kernel
theorem dX6_days_18 : decode cX6_days 18 = .ok (.aload_n 0, 1) := by decide +kernel
theorem dX6_days_19 : decode cX6_days 19 = .ok (.getfield 9, 3) := by decide +kernel
theorem dX6_days_22 : decode cX6_days 22 = .ok (.iconst 0, 1) := by decide +kernel
theorem dX6_days_23 : decode cX6_days 23 = .ok (.iaload, 1) := by decide +kernel
theorem dX6_days_24 : decode cX6_days 24 = .ok (.iload_n 1, 1) := by decide +kernel
theorem dX6_days_25 : decode cX6_days 25 = .ok (.iadd, 1) := by decide +kernel
theorem dX6_days_26 : decode cX6_days 26 = .ok (.sipush 9999, 3) := by decide +kernel
theorem dX6_days_29 : decode cX6_days 29 = .ok (.if_icmp .le 10, 3) := by decide +kernel
theorem dX6_days_32 : decode cX6_days 32 = .ok (.aload_n 0, 1) := by decide +kernel
theorem dX6_days_33 : decode cX6_days 33 = .ok (.ldc 109, 2) := by decide +kernel
theorem dX6_days_35 : decode cX6_days 35 = .ok (.invokevirtual 37, 3) := by decide +kernel
theorem dX6_days_38 : decode cX6_days 38 = .ok (.ireturn, 1) := by decide +kernel
theorem dX6_days_39 : decode cX6_days 39 = .ok (.aload_n 0, 1) := by decide +kernel
theorem dX6_days_40 : decode cX6_days 40 = .ok (.iload_n 1, 1) := by decide +kernel
theorem dX6_days_41 : decode cX6_days 41 = .ok (.invokevirtual 110, 3) := by decide +kernel
theorem dX6_days_44 : decode cX6_days 44 = .ok (.aload_n 0, 1) := by decide +kernel
theorem dX6_days_45 : decode cX6_days 45 = .ok (.invokevirtual 73, 3) := by decide +kernel
theorem dX6_days_48 : decode cX6_days 48 = .ok (.ireturn, 1) := by decide +kernel
set_option maxRecDepth 20000 in
theorem ggX6_thinks_X6_copyAll : GoodIn wsX6_thinks wsX6_copyAll := goodIn_r _ [6] (by decide +kernel) (by decide +kernel)
set_option maxRecDepth 20000 in
theorem gX6_thinks_X6_copyAll : GoodIn wsX6_thinks (va_wsS RX6 114 yX6_copyAll wsX6_copyAll) := goodIn_app (goodIn_of _ (by decide +kernel)) ggX6_thinks_X6_copyAll
theorem dX6_thinks_0 : decode cX6_thinks 0 = .ok (.aload_n 0, 1) := by decide +kernel
theorem dX6_thinks_1 : decode cX6_thinks 1 = .ok (.getfield 9, 3) := by decide +kernel
theorem dX6_thinks_4 : decode cX6_thinks 4 = .ok (.aload_n 0, 1) := by decide +kernel
theorem dX6_thinks_5 : decode cX6_thinks 5 = .ok (.getfield 16, 3) := by decide +kernel
theorem dX6_thinks_8 : decode cX6_thinks 8 = .ok (.invokestatic 114, 3) := by decide +kernel
theorem dX6_thinks_11 : decode cX6_thinks 11 = .ok (.return_, 1) := by decide +kernel
set_option maxRecDepth 20000 in
theorem ggX6_putsBack_X6_copyAll : GoodIn wsX6_putsBack wsX6_copyAll := goodIn_r _ [6] (by decide +kernel) (by decide +kernel)
set_option maxRecDepth 20000 in
theorem gX6_putsBack_X6_copyAll : GoodIn wsX6_putsBack (va_wsS RX6 114 yX6_copyAll wsX6_copyAll) := goodIn_app (goodIn_of _ (by decide +kernel)) ggX6_putsBack_X6_copyAll
theorem dX6_putsBack_0 : decode cX6_putsBack 0 = .ok (.aload_n 0, 1) := by decide +kernel
theorem dX6_putsBack_1 : decode cX6_putsBack 1 = .ok (.getfield 16, 3) := by decide +kernel
theorem dX6_putsBack_4 : decode cX6_putsBack 4 = .ok (.aload_n 0, 1) := by decide +kernel
theorem dX6_putsBack_5 : decode cX6_putsBack 5 = .ok (.getfield 9, 3) := by decide +kernel
theorem dX6_putsBack_8 : decode cX6_putsBack 8 = .ok (.invokestatic 114, 3) := by decide +kernel
theorem dX6_putsBack_11 : decode cX6_putsBack 11 = .ok (.return_, 1) := by decide +kernel
set_option maxRecDepth 20000 in
theorem ggX6_on_X6_isPart : GoodIn wsX6_on wsX6_isPart := goodIn_r _ [6, 7, 8, 9, 5, 10, 80, 81, 82, 83, 84, 85, 86, 87, 88, 89, 90, 91, 92, 93, 94, 95] (by decide +kernel) (by decide +kernel)
set_option maxRecDepth 20000 in
theorem gX6_on_X6_isPart : GoodIn wsX6_on (wsV RX6 88 RX6 yX6_isPart wsX6_isPart) := goodIn_app (goodIn_of _ (by decide +kernel)) ggX6_on_X6_isPart
set_option maxRecDepth 20000 in
theorem ggX6_on_X6_in : GoodIn wsX6_on wsX6_in := goodIn_r _ [10] (by decide +kernel) (by decide +kernel)
set_option maxRecDepth 20000 in
theorem gX6_on_X6_in : GoodIn wsX6_on (va_wsS RX6 41 yX6_in wsX6_in) := goodIn_app (goodIn_of _ (by decide +kernel)) ggX6_on_X6_in
set_option maxRecDepth 20000 in
theorem ggX6_on_X6_finds : GoodIn wsX6_on wsX6_finds := goodIn_r _ [14, 15, 1, 80, 81, 82, 83, 84, 85, 86, 87, 88, 89, 90, 91, 92, 93, 94, 95] (by decide +kernel) (by decide +kernel)
set_option maxRecDepth 20000 in
theorem gX6_on_X6_finds : GoodIn wsX6_on (wsV RX6 37 RX6 yX6_finds wsX6_finds) := goodIn_app (goodIn_of _ (by decide +kernel)) ggX6_on_X6_finds
set_option maxRecDepth 20000 in
theorem ggX6_on_X6_thinks : GoodIn wsX6_on wsX6_thinks := goodIn_r _ [19, 7, 20, 21, 22, 5, 23, 80, 81, 82, 83, 84, 85, 86, 87, 88, 89, 90, 91, 92, 93, 94, 95] (by decide +kernel) (by decide +kernel)
set_option maxRecDepth 20000 in
theorem gX6_on_X6_thinks : GoodIn wsX6_on (wsV RX6 118 RX6 yX6_thinks wsX6_thinks) := goodIn_app (goodIn_of _ (by decide +kernel)) ggX6_on_X6_thinks
set_option maxRecDepth 20000 in
theorem ggX6_on_X6_goesFor : GoodIn wsX6_on wsX6_goesFor := goodIn_r _ [27, 28, 29, 30, 5, 31, 32, 7, 33, 34, 35, 36, 37, 38, 39, 40, 41, 42, 43, 44, 45, 46, 47, 48, 49, 50, 51, 52, 53, 54, 55, 56, 57, 58, 59, 60, 61, 62, 63, 64, 65, 66, 67, 68, 69, 70, 71, 72, 73, 74, 75, 80, 81, 82, 83, 84, 85, 86, 87, 88, 89, 90, 91, 92, 93, 94, 95] (by decide +kernel) (by decide +kernel)
set_option maxRecDepth 20000 in
theorem gX6_on_X6_goesFor : GoodIn wsX6_on (wsV RX6 110 RX6 yX6_goesFor wsX6_goesFor) := goodIn_app (goodIn_of _ (by decide +kernel)) ggX6_on_X6_goesFor
set_option maxRecDepth 20000 in
theorem ggX6_on_X6_it : GoodIn wsX6_on wsX6_it := goodIn_r _ [44, 7, 80, 81, 82, 83, 84, 85, 86, 87, 88, 89, 90, 91, 92, 93, 94, 95] (by decide +kernel) (by decide +kernel)
set_option maxRecDepth 20000 in
theorem gX6_on_X6_it : GoodIn wsX6_on (wsV RX6 45 RX6 yX6_it wsX6_it) := goodIn_app (goodIn_of _ (by decide +kernel)) ggX6_on_X6_it
set_option maxRecDepth 20000 in
theorem ggX6_on_X6_isDone : GoodIn wsX6_on wsX6_isDone := goodIn_r _ [40, 41, 42, 43, 5, 44, 7, 45, 46, 47, 48, 80, 81, 82, 83, 84, 85, 86, 87, 88, 89, 90, 91, 92, 93, 94, 95] (by decide +kernel) (by decide +kernel)
set_option maxRecDepth 20000 in
theorem gX6_on_X6_isDone : GoodIn wsX6_on (wsV RX6 56 RX6 yX6_isDone wsX6_isDone) := goodIn_app (goodIn_of _ (by decide +kernel)) ggX6_on_X6_isDone
set_option maxRecDepth 20000 in
theorem ggX6_on_X6_putsBack : GoodIn wsX6_on wsX6_putsBack := goodIn_r _ [79, 20, 7, 21, 22, 5, 23, 80, 81, 82, 83, 84, 85, 86, 87, 88, 89, 90, 91, 92, 93, 94, 95] (by decide +kernel) (by decide +kernel)
set_option maxRecDepth 20000 in
theorem gX6_on_X6_putsBack : GoodIn wsX6_on (wsV RX6 121 RX6 yX6_putsBack wsX6_putsBack) := goodIn_app (goodIn_of _ (by decide +kernel)) ggX6_on_X6_putsBack
theorem dX6_on_0 : decode cX6_on 0 = .ok (.aload_n 0, 1) := by decide +kernel
theorem dX6_on_1 : decode cX6_on 1 = .ok (.iload_n 1, 1) := by decide +kernel
theorem dX6_on_2 : decode cX6_on 2 = .ok (.invokevirtual 88, 3) := by decide +kernel
theorem dX6_on_5 : decode cX6_on 5 = .ok (.ifCond .eq 25, 3) := by decide +kernel
theorem dX6_on_8 : decode cX6_on 8 = .ok (.iload_n 2, 1) := by decide +kernel
theorem dX6_on_9 : decode cX6_on 9 = .ok (.i2l, 1) := by decide +kernel
theorem dX6_on_10 : decode cX6_on 10 = .ok (.iconst 0, 1) := by decide +kernel
theorem dX6_on_11 : decode cX6_on 11 = .ok (.sipush 400, 3) := by decide +kernel
theorem dX6_on_14 : decode cX6_on 14 = .ok (.invokestatic 41, 3) := by decide +kernel
theorem dX6_on_17 : decode cX6_on 17 = .ok (.ifCond .eq 13, 3) := by decide +kernel
theorem dX6_on_20 : decode cX6_on 20 = .ok (.iload_n 3, 1) := by decide +kernel
theorem dX6_on_21 : decode cX6_on 21 = .ok (.i2l, 1) := by decide +kernel
theorem dX6_on_22 : decode cX6_on 22 = .ok (.iconst 0, 1) := by decide +kernel
theorem dX6_on_23 : decode cX6_on 23 = .ok (.iconst 1, 1) := by decide +kernel
theorem dX6_on_24 : decode cX6_on 24 = .ok (.invokestatic 41, 3) := by decide +kernel
theorem dX6_on_27 : decode cX6_on 27 = .ok (.ifCond .ne 10, 3) := by decide +kernel
theorem dX6_on_30 : decode cX6_on 30 = .ok (.aload_n 0, 1) := by decide +kernel
theorem dX6_on_31 : decode cX6_on 31 = .ok (.ldc 35, 2) := by decide +kernel
theorem dX6_on_33 : decode cX6_on 33 = .ok (.invokevirtual 37, 3) := by decide +kernel
theorem dX6_on_36 : decode cX6_on 36 = .ok (.ireturn, 1) := by decide +kernel
theorem dX6_on_37 : decode cX6_on 37 = .ok (.aload_n 0, 1) := by decide +kernel
theorem dX6_on_38 : decode cX6_on 38 = .ok (.invokevirtual 118, 3) := by decide +kernel
theorem dX6_on_41 : decode cX6_on 41 = .ok (.aload_n 0, 1) := by decide +kernel
theorem dX6_on_42 : decode cX6_on 42 = .ok (.iload_n 2, 1) := by decide +kernel
theorem dX6_on_43 : decode cX6_on 43 = .ok (.invokevirtual 110, 3) := by decide +kernel
theorem dX6_on_46 : decode cX6_on 46 = .ok (.iload_n 3, 1) := by decide +kernel
theorem dX6_on_47 : decode cX6_on 47 = .ok (.ifCond .ne 12, 3) := by decide +kernel
theorem dX6_on_50 : decode cX6_on 50 = .ok (.aload_n 0, 1) := by decide +kernel
theorem dX6_on_51 : decode cX6_on 51 = .ok (.iload_n 1, 1) := by decide +kernel
theorem dX6_on_52 : decode cX6_on 52 = .ok (.iconst 2, 1) := by decide +kernel
theorem dX6_on_53 : decode cX6_on 53 = .ok (.invokevirtual 45, 3) := by decide +kernel
theorem dX6_on_56 : decode cX6_on 56 = .ok (.goto 16, 3) := by decide +kernel
theorem dX6_on_59 : decode cX6_on 59 = .ok (.aload_n 0, 1) := by decide +kernel
theorem dX6_on_60 : decode cX6_on 60 = .ok (.iload_n 1, 1) := by decide +kernel
theorem dX6_on_61 : decode cX6_on 61 = .ok (.invokevirtual 56, 3) := by decide +kernel
theorem dX6_on_64 : decode cX6_on 64 = .ok (.ifCond .eq 7, 3) := by decide +kernel
theorem dX6_on_67 : decode cX6_on 67 = .ok (.iconst 1, 1) := by decide +kernel
theorem dX6_on_68 : decode cX6_on 68 = .ok (.goto 4, 3) := by decide +kernel
theorem dX6_on_71 : decode cX6_on 71 = .ok (.iconst 0, 1) := by decide +kernel
theorem dX6_on_72 : decode cX6_on 72 = .ok (.istore 4, 2) := by decide +kernel
theorem dX6_on_74 : decode cX6_on 74 = .ok (.aload_n 0, 1) := by decide +kernel
theorem dX6_on_75 : decode cX6_on 75 = .ok (.invokevirtual 121, 3) := by decide +kernel
theorem dX6_on_78 : decode cX6_on 78 = .ok (.iload 4, 2) := by decide +kernel
theorem dX6_on_80 : decode cX6_on 80 = .ok (.ireturn, 1) := by decide +kernel
set_option maxRecDepth 20000 in
theorem ggX6_then_X6_in : GoodIn wsX6_then wsX6_in := goodIn_r _ [6] (by decide +kernel) (by decide +kernel)
set_option maxRecDepth 20000 in
theorem gX6_then_X6_in : GoodIn wsX6_then (va_wsS RX6 41 yX6_in wsX6_in) := goodIn_app (goodIn_of _ (by decide +kernel)) ggX6_then_X6_in
set_option maxRecDepth 20000 in
theorem ggX6_then_X6_finds : GoodIn wsX6_then wsX6_finds := goodIn_r _ [10, 11, 1, 83, 84, 85, 86, 87, 88, 89, 90, 91, 92, 93, 94, 95, 96, 97, 98] (by decide +kernel) (by decide +kernel)
set_option maxRecDepth 20000 in
theorem gX6_then_X6_finds : GoodIn wsX6_then (wsV RX6 37 RX6 yX6_finds wsX6_finds) := goodIn_app (goodIn_of _ (by decide +kernel)) ggX6_then_X6_finds
set_option maxRecDepth 20000 in
theorem ggX6_then_X6_thinks : GoodIn wsX6_then wsX6_thinks := goodIn_r _ [15, 2, 16, 17, 18, 5, 19, 83, 84, 85, 86, 87, 88, 89, 90, 91, 92, 93, 94, 95, 96, 97, 98] (by decide +kernel) (by decide +kernel)
set_option maxRecDepth 20000 in
theorem gX6_then_X6_thinks : GoodIn wsX6_then (wsV RX6 118 RX6 yX6_thinks wsX6_thinks) := goodIn_app (goodIn_of _ (by decide +kernel)) ggX6_then_X6_thinks
set_option maxRecDepth 20000 in
theorem ggX6_then_X6_goesFor : GoodIn wsX6_then wsX6_goesFor := goodIn_r _ [23, 24, 25, 26, 5, 27, 28, 2, 29, 30, 31, 32, 33, 34, 35, 36, 37, 38, 39, 40, 41, 42, 43, 44, 45, 46, 47, 48, 49, 50, 51, 52, 53, 54, 55, 56, 57, 58, 59, 60, 61, 62, 63, 64, 65, 66, 67, 68, 69, 70, 71, 83, 84, 85, 86, 87, 88, 89, 90, 91, 92, 93, 94, 95, 96, 97, 98] (by decide +kernel) (by decide +kernel)
set_option maxRecDepth 20000 in
theorem gX6_then_X6_goesFor : GoodIn wsX6_then (wsV RX6 110 RX6 yX6_goesFor wsX6_goesFor) := goodIn_app (goodIn_of _ (by decide +kernel)) ggX6_then_X6_goesFor
set_option maxRecDepth 20000 in
theorem ggX6_then_X6_doneOnes : GoodIn wsX6_then wsX6_doneOnes := goodIn_r _ [75, 2, 33, 34, 35, 5, 36, 37, 38, 39, 40, 41, 42, 43, 44, 83, 84, 85, 86, 87, 88, 89, 90, 91, 92, 93, 94, 95, 96, 97, 98] (by decide +kernel) (by decide +kernel)
set_option maxRecDepth 20000 in
theorem gX6_then_X6_doneOnes : GoodIn wsX6_then (wsV RX6 73 RX6 yX6_doneOnes wsX6_doneOnes) := goodIn_app (goodIn_of _ (by decide +kernel)) ggX6_then_X6_doneOnes
set_option maxRecDepth 20000 in
theorem ggX6_then_X6_bits : GoodIn wsX6_then wsX6_bits := goodIn_r _ [78] (by decide +kernel) (by decide +kernel)
set_option maxRecDepth 20000 in
theorem gX6_then_X6_bits : GoodIn wsX6_then (va_wsS RX6 124 yX6_bits wsX6_bits) := goodIn_app (goodIn_of _ (by decide +kernel)) ggX6_then_X6_bits
set_option maxRecDepth 20000 in
theorem ggX6_then_X6_putsBack : GoodIn wsX6_then wsX6_putsBack := goodIn_r _ [82, 16, 2, 17, 18, 5, 19, 83, 84, 85, 86, 87, 88, 89, 90, 91, 92, 93, 94, 95, 96, 97, 98] (by decide +kernel) (by decide +kernel)
set_option maxRecDepth 20000 in
theorem gX6_then_X6_putsBack : GoodIn wsX6_then (wsV RX6 121 RX6 yX6_putsBack wsX6_putsBack) := goodIn_app (goodIn_of _ (by decide +kernel)) ggX6_then_X6_putsBack
theorem dX6_then_0 : decode cX6_then 0 = .ok (.iload_n 1, 1) := by decide +kernel
theorem dX6_then_1 : decode cX6_then 1 = .ok (.i2l, 1) := by decide +kernel
theorem dX6_then_2 : decode cX6_then 2 = .ok (.iconst 0, 1) := by decide +kernel
theorem dX6_then_3 : decode cX6_then 3 = .ok (.sipush 400, 3) := by decide +kernel
theorem dX6_then_6 : decode cX6_then 6 = .ok (.invokestatic 41, 3) := by decide +kernel
theorem dX6_then_9 : decode cX6_then 9 = .ok (.ifCond .eq 13, 3) := by decide +kernel
theorem dX6_then_12 : decode cX6_then 12 = .ok (.iload_n 2, 1) := by decide +kernel
theorem dX6_then_13 : decode cX6_then 13 = .ok (.i2l, 1) := by decide +kernel
theorem dX6_then_14 : decode cX6_then 14 = .ok (.iconst 0, 1) := by decide +kernel
theorem dX6_then_15 : decode cX6_then 15 = .ok (.iconst 2, 1) := by decide +kernel
theorem dX6_then_16 : decode cX6_then 16 = .ok (.invokestatic 41, 3) := by decide +kernel
theorem dX6_then_19 : decode cX6_then 19 = .ok (.ifCond .ne 10, 3) := by decide +kernel
theorem dX6_then_22 : decode cX6_then 22 = .ok (.aload_n 0, 1) := by decide +kernel
theorem dX6_then_23 : decode cX6_then 23 = .ok (.ldc 35, 2) := by decide +kernel
theorem dX6_then_25 : decode cX6_then 25 = .ok (.invokevirtual 37, 3) := by decide +kernel
theorem dX6_then_28 : decode cX6_then 28 = .ok (.ireturn, 1) := by decide +kernel
theorem dX6_then_29 : decode cX6_then 29 = .ok (.aload_n 0, 1) := by decide +kernel
theorem dX6_then_30 : decode cX6_then 30 = .ok (.invokevirtual 118, 3) := by decide +kernel
theorem dX6_then_33 : decode cX6_then 33 = .ok (.aload_n 0, 1) := by decide +kernel
theorem dX6_then_34 : decode cX6_then 34 = .ok (.iload_n 1, 1) := by decide +kernel
theorem dX6_then_35 : decode cX6_then 35 = .ok (.invokevirtual 110, 3) := by decide +kernel
theorem dX6_then_38 : decode cX6_then 38 = .ok (.iload_n 2, 1) := by decide +kernel
theorem dX6_then_39 : decode cX6_then 39 = .ok (.iconst 2, 1) := by decide +kernel
theorem dX6_then_40 : decode cX6_then 40 = .ok (.if_icmp .ne 13, 3) := by decide +kernel
theorem dX6_then_43 : decode cX6_then 43 = .ok (.aload_n 0, 1) := by decide +kernel
theorem dX6_then_44 : decode cX6_then 44 = .ok (.invokevirtual 73, 3) := by decide +kernel
theorem dX6_then_47 : decode cX6_then 47 = .ok (.invokestatic 124, 3) := by decide +kernel
theorem dX6_then_50 : decode cX6_then 50 = .ok (.goto 11, 3) := by decide +kernel
theorem dX6_then_53 : decode cX6_then 53 = .ok (.aload_n 0, 1) := by decide +kernel
theorem dX6_then_54 : decode cX6_then 54 = .ok (.getfield 9, 3) := by decide +kernel
theorem dX6_then_57 : decode cX6_then 57 = .ok (.iconst 1, 1) := by decide +kernel
theorem dX6_then_58 : decode cX6_then 58 = .ok (.iload_n 2, 1) := by decide +kernel
theorem dX6_then_59 : decode cX6_then 59 = .ok (.iadd, 1) := by decide +kernel
theorem dX6_then_60 : decode cX6_then 60 = .ok (.iaload, 1) := by decide +kernel
theorem dX6_then_61 : decode cX6_then 61 = .ok (.istore_n 3, 1) := by decide +kernel
theorem dX6_then_62 : decode cX6_then 62 = .ok (.aload_n 0, 1) := by decide +kernel
theorem dX6_then_63 : decode cX6_then 63 = .ok (.invokevirtual 121, 3) := by decide +kernel
theorem dX6_then_66 : decode cX6_then 66 = .ok (.iload_n 3, 1) := by decide +kernel
theorem dX6_then_67 : decode cX6_then 67 = .ok (.ireturn, 1) := by decide +kernel
set_option maxRecDepth 20000 in
theorem ggX6_doneIn_X6_isDone : GoodIn wsX6_doneIn wsX6_isDone := goodIn_r _ [5, 6, 7, 8, 4, 9, 10, 11, 12, 13, 14, 59, 60, 61, 62, 63, 64, 65, 66, 67, 68, 69, 70, 71, 72, 73, 74] (by decide +kernel) (by decide +kernel)
set_option maxRecDepth 20000 in
theorem gX6_doneIn_X6_isDone : GoodIn wsX6_doneIn (wsV RX6 56 RX6 yX6_isDone wsX6_isDone) := goodIn_app (goodIn_of _ (by decide +kernel)) ggX6_doneIn_X6_isDone
set_option maxRecDepth 20000 in
theorem ggX6_doneIn_X6_goes : GoodIn wsX6_doneIn wsX6_goes := goodIn_r _ [18, 19, 10, 20, 21, 22, 4, 23, 1, 2, 3, 5, 6, 7, 8, 9, 11, 12, 13, 14, 24, 25, 26, 27, 28, 29, 30, 31, 32, 33, 34, 35, 36, 37, 38, 39, 40, 41, 42, 43, 44, 45, 46, 47, 48, 49, 50, 59, 60, 61, 62, 63, 64, 65, 66, 67, 68, 69, 70, 71, 72, 73, 74] (by decide +kernel) (by decide +kernel)
set_option maxRecDepth 20000 in
theorem gX6_doneIn_X6_goes : GoodIn wsX6_doneIn (wsV RX6 106 RX6 yX6_goes wsX6_goes) := goodIn_app (goodIn_of _ (by decide +kernel)) ggX6_doneIn_X6_goes
set_option maxRecDepth 20000 in
theorem ggX6_doneIn_X6_putsBack : GoodIn wsX6_doneIn wsX6_putsBack := goodIn_r _ [54, 55, 10, 56, 57, 4, 58, 59, 60, 61, 62, 63, 64, 65, 66, 67, 68, 69, 70, 71, 72, 73, 74] (by decide +kernel) (by decide +kernel)
set_option maxRecDepth 20000 in
theorem gX6_doneIn_X6_putsBack : GoodIn wsX6_doneIn (wsV RX6 121 RX6 yX6_putsBack wsX6_putsBack) := goodIn_app (goodIn_of _ (by decide +kernel)) ggX6_doneIn_X6_putsBack
theorem dX6_doneIn_0 : decode cX6_doneIn 0 = .ok (.iconst 0, 1) := by decide +kernel
theorem dX6_doneIn_1 : decode cX6_doneIn 1 = .ok (.istore_n 3, 1) := by decide +kernel
theorem dX6_doneIn_2 : decode cX6_doneIn 2 = .ok (.iload_n 3, 1) := by decide +kernel
theorem dX6_doneIn_3 : decode cX6_doneIn 3 = .ok (.iload_n 2, 1) := by decide +kernel
theorem dX6_doneIn_4 : decode cX6_doneIn 4 = .ok (.if_icmp .gt 21, 3) := by decide +kernel
theorem dX6_doneIn_7 : decode cX6_doneIn 7 = .ok (.aload_n 0, 1) := by decide +kernel
theorem dX6_doneIn_8 : decode cX6_doneIn 8 = .ok (.iload_n 1, 1) := by decide +kernel
theorem dX6_doneIn_9 : decode cX6_doneIn 9 = .ok (.invokevirtual 56, 3) := by decide +kernel
theorem dX6_doneIn_12 : decode cX6_doneIn 12 = .ok (.ifCond .ne 13, 3) := by decide +kernel
theorem dX6_doneIn_15 : decode cX6_doneIn 15 = .ok (.aload_n 0, 1) := by decide +kernel
theorem dX6_doneIn_16 : decode cX6_doneIn 16 = .ok (.invokevirtual 106, 3) := by decide +kernel
theorem dX6_doneIn_19 : decode cX6_doneIn 19 = .ok (.iinc 3 1, 3) := by decide +kernel
theorem dX6_doneIn_22 : decode cX6_doneIn 22 = .ok (.goto (-20), 3) := by decide +kernel
theorem dX6_doneIn_25 : decode cX6_doneIn 25 = .ok (.aload_n 0, 1) := by decide +kernel
theorem dX6_doneIn_26 : decode cX6_doneIn 26 = .ok (.invokevirtual 121, 3) := by decide +kernel
theorem dX6_doneIn_29 : decode cX6_doneIn 29 = .ok (.iload_n 3, 1) := by decide +kernel
theorem dX6_doneIn_30 : decode cX6_doneIn 30 = .ok (.iload_n 2, 1) := by decide +kernel
theorem dX6_doneIn_31 : decode cX6_doneIn 31 = .ok (.if_icmp .le 7, 3) := by decide +kernel
theorem dX6_doneIn_34 : decode cX6_doneIn 34 = .ok (.iconst (-1), 1) := by decide +kernel
theorem dX6_doneIn_35 : decode cX6_doneIn 35 = .ok (.goto 4, 3) := by decide +kernel
theorem dX6_doneIn_38 : decode cX6_doneIn 38 = .ok (.iload_n 3, 1) := by decide +kernel
theorem dX6_doneIn_39 : decode cX6_doneIn 39 = .ok (.ireturn, 1) := by decide +kernel
set_option maxRecDepth 20000 in
theorem ggX6_done_X6_isPart : GoodIn wsX6_done wsX6_isPart := goodIn_r _ [6, 7, 8, 9, 5, 10, 85, 86, 87, 88, 89, 90, 91, 92, 93, 94, 95, 96, 97, 98, 99, 100] (by decide +kernel) (by decide +kernel)
set_option maxRecDepth 20000 in
theorem gX6_done_X6_isPart : GoodIn wsX6_done (wsV RX6 88 RX6 yX6_isPart wsX6_isPart) := goodIn_app (goodIn_of _ (by decide +kernel)) ggX6_done_X6_isPart
set_option maxRecDepth 20000 in
theorem ggX6_done_X6_finds : GoodIn wsX6_done wsX6_finds := goodIn_r _ [14, 15, 1, 85, 86, 87, 88, 89, 90, 91, 92, 93, 94, 95, 96, 97, 98, 99, 100] (by decide +kernel) (by decide +kernel)
set_option maxRecDepth 20000 in
theorem gX6_done_X6_finds : GoodIn wsX6_done (wsV RX6 37 RX6 yX6_finds wsX6_finds) := goodIn_app (goodIn_of _ (by decide +kernel)) ggX6_done_X6_finds
set_option maxRecDepth 20000 in
theorem ggX6_done_X6_thinks : GoodIn wsX6_done wsX6_thinks := goodIn_r _ [19, 7, 20, 21, 22, 5, 23, 85, 86, 87, 88, 89, 90, 91, 92, 93, 94, 95, 96, 97, 98, 99, 100] (by decide +kernel) (by decide +kernel)
set_option maxRecDepth 20000 in
theorem gX6_done_X6_thinks : GoodIn wsX6_done (wsV RX6 118 RX6 yX6_thinks wsX6_thinks) := goodIn_app (goodIn_of _ (by decide +kernel)) ggX6_done_X6_thinks
set_option maxRecDepth 20000 in
theorem ggX6_done_X6_doneIn : GoodIn wsX6_done wsX6_doneIn := goodIn_r _ [27, 28, 29, 30, 5, 31, 32, 33, 34, 35, 7, 36, 37, 38, 39, 40, 41, 42, 43, 44, 45, 46, 47, 48, 49, 50, 51, 52, 53, 54, 55, 56, 57, 58, 59, 60, 61, 62, 63, 64, 65, 66, 67, 68, 69, 70, 71, 72, 73, 74, 75, 76, 77, 78, 79, 20, 21, 22, 23, 85, 86, 87, 88, 89, 90, 91, 92, 93, 94, 95, 96, 97, 98, 99, 100] (by decide +kernel) (by decide +kernel)
set_option maxRecDepth 20000 in
theorem gX6_done_X6_doneIn : GoodIn wsX6_done (wsV RX6 127 RX6 yX6_doneIn wsX6_doneIn) := goodIn_app (goodIn_of _ (by decide +kernel)) ggX6_done_X6_doneIn
set_option maxRecDepth 20000 in
theorem ggX6_done_X6_orNone : GoodIn wsX6_done wsX6_orNone := goodIn_r _ [83, 84, 11, 12, 13, 5, 14, 15, 1, 85, 86, 87, 88, 89, 90, 91, 92, 93, 94, 95, 96, 97, 98, 99, 100] (by decide +kernel) (by decide +kernel)
set_option maxRecDepth 20000 in
theorem gX6_done_X6_orNone : GoodIn wsX6_done (wsV RX6 130 RX6 yX6_orNone wsX6_orNone) := goodIn_app (goodIn_of _ (by decide +kernel)) ggX6_done_X6_orNone
theorem dX6_done_0 : decode cX6_done 0 = .ok (.aload_n 0, 1) := by decide +kernel
theorem dX6_done_1 : decode cX6_done 1 = .ok (.iload_n 1, 1) := by decide +kernel
theorem dX6_done_2 : decode cX6_done 2 = .ok (.invokevirtual 88, 3) := by decide +kernel
theorem dX6_done_5 : decode cX6_done 5 = .ok (.ifCond .ne 10, 3) := by decide +kernel
theorem dX6_done_8 : decode cX6_done 8 = .ok (.aload_n 0, 1) := by decide +kernel
theorem dX6_done_9 : decode cX6_done 9 = .ok (.ldc 35, 2) := by decide +kernel
theorem dX6_done_11 : decode cX6_done 11 = .ok (.invokevirtual 37, 3) := by decide +kernel
theorem dX6_done_14 : decode cX6_done 14 = .ok (.ireturn, 1) := by decide +kernel
theorem dX6_done_15 : decode cX6_done 15 = .ok (.aload_n 0, 1) := by decide +kernel
theorem dX6_done_16 : decode cX6_done 16 = .ok (.invokevirtual 118, 3) := by decide +kernel
theorem dX6_done_19 : decode cX6_done 19 = .ok (.aload_n 0, 1) := by decide +kernel
theorem dX6_done_20 : decode cX6_done 20 = .ok (.aload_n 0, 1) := by decide +kernel
theorem dX6_done_21 : decode cX6_done 21 = .ok (.iload_n 1, 1) := by decide +kernel
theorem dX6_done_22 : decode cX6_done 22 = .ok (.sipush 400, 3) := by decide +kernel
theorem dX6_done_25 : decode cX6_done 25 = .ok (.invokevirtual 127, 3) := by decide +kernel
theorem dX6_done_28 : decode cX6_done 28 = .ok (.invokevirtual 130, 3) := by decide +kernel
theorem dX6_done_31 : decode cX6_done 31 = .ok (.ireturn, 1) := by decide +kernel
set_option maxRecDepth 20000 in
theorem ggX6_areDone_X6_doneOnes : GoodIn wsX6_areDone wsX6_doneOnes := goodIn_r _ [6, 1, 7, 8, 9, 5, 10, 11, 12, 13, 14, 15, 16, 17, 18, 19, 20, 21, 22, 23, 24, 25, 26, 27, 28, 29, 30, 31, 32, 33, 34] (by decide +kernel) (by decide +kernel)
set_option maxRecDepth 20000 in
theorem gX6_areDone_X6_doneOnes : GoodIn wsX6_areDone (wsV RX6 73 RX6 yX6_doneOnes wsX6_doneOnes) := goodIn_app (goodIn_of _ (by decide +kernel)) ggX6_areDone_X6_doneOnes
theorem dX6_areDone_0 : decode cX6_areDone 0 = .ok (.aload_n 0, 1) := by decide +kernel
theorem dX6_areDone_1 : decode cX6_areDone 1 = .ok (.invokevirtual 73, 3) := by decide +kernel
theorem dX6_areDone_4 : decode cX6_areDone 4 = .ok (.iconst 1, 1) := by decide +kernel
theorem dX6_areDone_5 : decode cX6_areDone 5 = .ok (.aload_n 0, 1) := by decide +kernel
theorem dX6_areDone_6 : decode cX6_areDone 6 = .ok (.getfield 9, 3) := by decide +kernel
theorem dX6_areDone_9 : decode cX6_areDone 9 = .ok (.iconst 3, 1) := by decide +kernel
theorem dX6_areDone_10 : decode cX6_areDone 10 = .ok (.iaload, 1) := by decide +kernel
theorem dX6_areDone_11 : decode cX6_areDone 11 = .ok (.ishl, 1) := by decide +kernel
theorem dX6_areDone_12 : decode cX6_areDone 12 = .ok (.iconst 1, 1) := by decide +kernel
theorem dX6_areDone_13 : decode cX6_areDone 13 = .ok (.isub, 1) := by decide +kernel
theorem dX6_areDone_14 : decode cX6_areDone 14 = .ok (.if_icmp .ne 7, 3) := by decide +kernel
theorem dX6_areDone_17 : decode cX6_areDone 17 = .ok (.iconst 1, 1) := by decide +kernel
theorem dX6_areDone_18 : decode cX6_areDone 18 = .ok (.goto 4, 3) := by decide +kernel
theorem dX6_areDone_21 : decode cX6_areDone 21 = .ok (.iconst 0, 1) := by decide +kernel
theorem dX6_areDone_22 : decode cX6_areDone 22 = .ok (.ireturn, 1) := by decide +kernel
set_option maxRecDepth 20000 in
theorem ggX6_allIn_X6_areDone : GoodIn wsX6_allIn wsX6_areDone := goodIn_r _ [5, 6, 7, 8, 9, 4, 10, 11, 12, 13, 14, 15, 16, 17, 18, 19, 20, 21, 22, 67, 68, 69, 70, 71, 72, 73, 74, 75, 76, 77, 78, 79, 80, 81, 82] (by decide +kernel) (by decide +kernel)
set_option maxRecDepth 20000 in
theorem gX6_allIn_X6_areDone : GoodIn wsX6_allIn (wsV RX6 133 RX6 yX6_areDone wsX6_areDone) := goodIn_app (goodIn_of _ (by decide +kernel)) ggX6_allIn_X6_areDone
set_option maxRecDepth 20000 in
theorem ggX6_allIn_X6_goes : GoodIn wsX6_allIn wsX6_goes := goodIn_r _ [26, 27, 6, 28, 29, 30, 4, 31, 11, 12, 13, 14, 15, 16, 17, 18, 19, 20, 21, 22, 32, 33, 34, 35, 36, 37, 38, 39, 40, 41, 42, 43, 44, 45, 46, 47, 48, 49, 50, 51, 52, 53, 54, 55, 56, 57, 58, 67, 68, 69, 70, 71, 72, 73, 74, 75, 76, 77, 78, 79, 80, 81, 82] (by decide +kernel) (by decide +kernel)
set_option maxRecDepth 20000 in
theorem gX6_allIn_X6_goes : GoodIn wsX6_allIn (wsV RX6 106 RX6 yX6_goes wsX6_goes) := goodIn_app (goodIn_of _ (by decide +kernel)) ggX6_allIn_X6_goes
set_option maxRecDepth 20000 in
theorem ggX6_allIn_X6_putsBack : GoodIn wsX6_allIn wsX6_putsBack := goodIn_r _ [62, 63, 6, 64, 65, 4, 66, 67, 68, 69, 70, 71, 72, 73, 74, 75, 76, 77, 78, 79, 80, 81, 82] (by decide +kernel) (by decide +kernel)
set_option maxRecDepth 20000 in
theorem gX6_allIn_X6_putsBack : GoodIn wsX6_allIn (wsV RX6 121 RX6 yX6_putsBack wsX6_putsBack) := goodIn_app (goodIn_of _ (by decide +kernel)) ggX6_allIn_X6_putsBack
theorem dX6_allIn_0 : decode cX6_allIn 0 = .ok (.iconst 0, 1) := by decide +kernel
theorem dX6_allIn_1 : decode cX6_allIn 1 = .ok (.istore_n 1, 1) := by decide +kernel
theorem dX6_allIn_2 : decode cX6_allIn 2 = .ok (.iload_n 1, 1) := by decide +kernel
theorem dX6_allIn_3 : decode cX6_allIn 3 = .ok (.sipush 400, 3) := by decide +kernel
theorem dX6_allIn_6 : decode cX6_allIn 6 = .ok (.if_icmp .gt 20, 3) := by decide +kernel
theorem dX6_allIn_9 : decode cX6_allIn 9 = .ok (.aload_n 0, 1) := by decide +kernel
theorem dX6_allIn_10 : decode cX6_allIn 10 = .ok (.invokevirtual 133, 3) := by decide +kernel
theorem dX6_allIn_13 : decode cX6_allIn 13 = .ok (.ifCond .ne 13, 3) := by decide +kernel
theorem dX6_allIn_16 : decode cX6_allIn 16 = .ok (.aload_n 0, 1) := by decide +kernel
theorem dX6_allIn_17 : decode cX6_allIn 17 = .ok (.invokevirtual 106, 3) := by decide +kernel
theorem dX6_allIn_20 : decode cX6_allIn 20 = .ok (.iinc 1 1, 3) := by decide +kernel
theorem dX6_allIn_23 : decode cX6_allIn 23 = .ok (.goto (-21), 3) := by decide +kernel
theorem dX6_allIn_26 : decode cX6_allIn 26 = .ok (.aload_n 0, 1) := by decide +kernel
theorem dX6_allIn_27 : decode cX6_allIn 27 = .ok (.invokevirtual 121, 3) := by decide +kernel
theorem dX6_allIn_30 : decode cX6_allIn 30 = .ok (.iload_n 1, 1) := by decide +kernel
theorem dX6_allIn_31 : decode cX6_allIn 31 = .ok (.sipush 400, 3) := by decide +kernel
theorem dX6_allIn_34 : decode cX6_allIn 34 = .ok (.if_icmp .le 7, 3) := by decide +kernel
theorem dX6_allIn_37 : decode cX6_allIn 37 = .ok (.iconst (-1), 1) := by decide +kernel
theorem dX6_allIn_38 : decode cX6_allIn 38 = .ok (.goto 4, 3) := by decide +kernel
theorem dX6_allIn_41 : decode cX6_allIn 41 = .ok (.iload_n 1, 1) := by decide +kernel
theorem dX6_allIn_42 : decode cX6_allIn 42 = .ok (.ireturn, 1) := by decide +kernel
set_option maxRecDepth 20000 in
theorem ggX6_all_X6_thinks : GoodIn wsX6_all wsX6_thinks := goodIn_r _ [5, 6, 7, 8, 9, 4, 10, 86, 87, 88, 89, 90, 91, 92, 93, 94, 95, 96, 97, 98, 99, 100, 101] (by decide +kernel) (by decide +kernel)
set_option maxRecDepth 20000 in
theorem gX6_all_X6_thinks : GoodIn wsX6_all (wsV RX6 118 RX6 yX6_thinks wsX6_thinks) := goodIn_app (goodIn_of _ (by decide +kernel)) ggX6_all_X6_thinks
set_option maxRecDepth 20000 in
theorem ggX6_all_X6_allIn : GoodIn wsX6_all wsX6_allIn := goodIn_r _ [14, 15, 16, 17, 4, 18, 6, 19, 20, 21, 22, 23, 24, 25, 26, 27, 28, 29, 30, 31, 32, 33, 34, 35, 36, 37, 38, 39, 40, 41, 42, 43, 44, 45, 46, 47, 48, 49, 50, 51, 52, 53, 54, 55, 56, 57, 58, 59, 60, 61, 62, 63, 64, 65, 66, 67, 68, 69, 70, 71, 72, 73, 74, 7, 8, 9, 10, 86, 87, 88, 89, 90, 91, 92, 93, 94, 95, 96, 97, 98, 99, 100, 101] (by decide +kernel) (by decide +kernel)
set_option maxRecDepth 20000 in
theorem gX6_all_X6_allIn : GoodIn wsX6_all (wsV RX6 136 RX6 yX6_allIn wsX6_allIn) := goodIn_app (goodIn_of _ (by decide +kernel)) ggX6_all_X6_allIn
set_option maxRecDepth 20000 in
theorem ggX6_all_X6_orNone : GoodIn wsX6_all wsX6_orNone := goodIn_r _ [78, 79, 80, 81, 82, 4, 83, 84, 85, 86, 87, 88, 89, 90, 91, 92, 93, 94, 95, 96, 97, 98, 99, 100, 101] (by decide +kernel) (by decide +kernel)
set_option maxRecDepth 20000 in
theorem gX6_all_X6_orNone : GoodIn wsX6_all (wsV RX6 130 RX6 yX6_orNone wsX6_orNone) := goodIn_app (goodIn_of _ (by decide +kernel)) ggX6_all_X6_orNone
theorem dX6_all_0 : decode cX6_all 0 = .ok (.aload_n 0, 1) := by decide +kernel
theorem dX6_all_1 : decode cX6_all 1 = .ok (.invokevirtual 118, 3) := by decide +kernel
theorem dX6_all_4 : decode cX6_all 4 = .ok (.aload_n 0, 1) := by decide +kernel
theorem dX6_all_5 : decode cX6_all 5 = .ok (.aload_n 0, 1) := by decide +kernel
theorem dX6_all_6 : decode cX6_all 6 = .ok (.invokevirtual 136, 3) := by decide +kernel
theorem dX6_all_9 : decode cX6_all 9 = .ok (.invokevirtual 130, 3) := by decide +kernel
theorem dX6_all_12 : decode cX6_all 12 = .ok (.ireturn, 1) := by decide +kernel
set_option maxRecDepth 20000 in
theorem ggX6_played_X6_isPart : GoodIn wsX6_played wsX6_isPart := goodIn_r _ [8, 9, 10, 11, 7, 12, 77, 78, 79, 80, 81, 82, 83, 84, 85, 86, 87, 88, 89, 90, 91, 92] (by decide +kernel) (by decide +kernel)
set_option maxRecDepth 20000 in
theorem gX6_played_X6_isPart : GoodIn wsX6_played (wsV RX6 88 RX6 yX6_isPart wsX6_isPart) := goodIn_app (goodIn_of _ (by decide +kernel)) ggX6_played_X6_isPart
set_option maxRecDepth 20000 in
theorem ggX6_played_X6_finds : GoodIn wsX6_played wsX6_finds := goodIn_r _ [16, 17, 1, 77, 78, 79, 80, 81, 82, 83, 84, 85, 86, 87, 88, 89, 90, 91, 92] (by decide +kernel) (by decide +kernel)
set_option maxRecDepth 20000 in
theorem gX6_played_X6_finds : GoodIn wsX6_played (wsV RX6 37 RX6 yX6_finds wsX6_finds) := goodIn_app (goodIn_of _ (by decide +kernel)) ggX6_played_X6_finds
set_option maxRecDepth 20000 in
theorem ggX6_played_X6_thinks : GoodIn wsX6_played wsX6_thinks := goodIn_r _ [21, 9, 22, 23, 24, 7, 25, 77, 78, 79, 80, 81, 82, 83, 84, 85, 86, 87, 88, 89, 90, 91, 92] (by decide +kernel) (by decide +kernel)
set_option maxRecDepth 20000 in
theorem gX6_played_X6_thinks : GoodIn wsX6_played (wsV RX6 118 RX6 yX6_thinks wsX6_thinks) := goodIn_app (goodIn_of _ (by decide +kernel)) ggX6_played_X6_thinks
set_option maxRecDepth 20000 in
theorem ggX6_played_X6_goes : GoodIn wsX6_played wsX6_goes := goodIn_r _ [29, 2, 9, 30, 31, 32, 7, 33, 34, 35, 36, 37, 38, 39, 40, 41, 42, 43, 44, 45, 46, 47, 48, 49, 50, 51, 52, 53, 54, 55, 56, 57, 58, 59, 60, 61, 62, 63, 64, 65, 66, 67, 68, 69, 70, 71, 72, 77, 78, 79, 80, 81, 82, 83, 84, 85, 86, 87, 88, 89, 90, 91, 92] (by decide +kernel) (by decide +kernel)
set_option maxRecDepth 20000 in
theorem gX6_played_X6_goes : GoodIn wsX6_played (wsV RX6 106 RX6 yX6_goes wsX6_goes) := goodIn_app (goodIn_of _ (by decide +kernel)) ggX6_played_X6_goes
set_option maxRecDepth 20000 in
theorem ggX6_played_X6_putsBack : GoodIn wsX6_played wsX6_putsBack := goodIn_r _ [76, 22, 9, 23, 24, 7, 25, 77, 78, 79, 80, 81, 82, 83, 84, 85, 86, 87, 88, 89, 90, 91, 92] (by decide +kernel) (by decide +kernel)
set_option maxRecDepth 20000 in
theorem gX6_played_X6_putsBack : GoodIn wsX6_played (wsV RX6 121 RX6 yX6_putsBack wsX6_putsBack) := goodIn_app (goodIn_of _ (by decide +kernel)) ggX6_played_X6_putsBack
theorem dX6_played_0 : decode cX6_played 0 = .ok (.aload_n 0, 1) := by decide +kernel
theorem dX6_played_1 : decode cX6_played 1 = .ok (.iload_n 1, 1) := by decide +kernel
theorem dX6_played_2 : decode cX6_played 2 = .ok (.invokevirtual 88, 3) := by decide +kernel
theorem dX6_played_5 : decode cX6_played 5 = .ok (.ifCond .ne 10, 3) := by decide +kernel
theorem dX6_played_8 : decode cX6_played 8 = .ok (.aload_n 0, 1) := by decide +kernel
theorem dX6_played_9 : decode cX6_played 9 = .ok (.ldc 35, 2) := by decide +kernel
theorem dX6_played_11 : decode cX6_played 11 = .ok (.invokevirtual 37, 3) := by decide +kernel
theorem dX6_played_14 : decode cX6_played 14 = .ok (.ireturn, 1) := by decide +kernel
theorem dX6_played_15 : decode cX6_played 15 = .ok (.aload_n 0, 1) := by decide +kernel
theorem dX6_played_16 : decode cX6_played 16 = .ok (.invokevirtual 118, 3) := by decide +kernel
theorem dX6_played_19 : decode cX6_played 19 = .ok (.iconst 1, 1) := by decide +kernel
theorem dX6_played_20 : decode cX6_played 20 = .ok (.istore_n 2, 1) := by decide +kernel
theorem dX6_played_21 : decode cX6_played 21 = .ok (.aload_n 0, 1) := by decide +kernel
theorem dX6_played_22 : decode cX6_played 22 = .ok (.invokevirtual 106, 3) := by decide +kernel
theorem dX6_played_25 : decode cX6_played 25 = .ok (.iload_n 2, 1) := by decide +kernel
theorem dX6_played_26 : decode cX6_played 26 = .ok (.sipush 400, 3) := by decide +kernel
theorem dX6_played_29 : decode cX6_played 29 = .ok (.if_icmp .gt 21, 3) := by decide +kernel
theorem dX6_played_32 : decode cX6_played 32 = .ok (.aload_n 0, 1) := by decide +kernel
theorem dX6_played_33 : decode cX6_played 33 = .ok (.getfield 102, 3) := by decide +kernel
theorem dX6_played_36 : decode cX6_played 36 = .ok (.iload_n 1, 1) := by decide +kernel
theorem dX6_played_37 : decode cX6_played 37 = .ok (.if_icmp .eq 13, 3) := by decide +kernel
theorem dX6_played_40 : decode cX6_played 40 = .ok (.aload_n 0, 1) := by decide +kernel
theorem dX6_played_41 : decode cX6_played 41 = .ok (.invokevirtual 106, 3) := by decide +kernel
theorem dX6_played_44 : decode cX6_played 44 = .ok (.iinc 2 1, 3) := by decide +kernel
theorem dX6_played_47 : decode cX6_played 47 = .ok (.goto (-22), 3) := by decide +kernel
theorem dX6_played_50 : decode cX6_played 50 = .ok (.aload_n 0, 1) := by decide +kernel
theorem dX6_played_51 : decode cX6_played 51 = .ok (.invokevirtual 121, 3) := by decide +kernel
theorem dX6_played_54 : decode cX6_played 54 = .ok (.iload_n 2, 1) := by decide +kernel
theorem dX6_played_55 : decode cX6_played 55 = .ok (.sipush 400, 3) := by decide +kernel
theorem dX6_played_58 : decode cX6_played 58 = .ok (.if_icmp .le 12, 3) := by decide +kernel
theorem dX6_played_61 : decode cX6_played 61 = .ok (.aload_n 0, 1) := by decide +kernel
theorem dX6_played_62 : decode cX6_played 62 = .ok (.ldc 36, 2) := by decide +kernel
theorem dX6_played_64 : decode cX6_played 64 = .ok (.invokevirtual 37, 3) := by decide +kernel
theorem dX6_played_67 : decode cX6_played 67 = .ok (.goto 4, 3) := by decide +kernel
theorem dX6_played_70 : decode cX6_played 70 = .ok (.iload_n 2, 1) := by decide +kernel
theorem dX6_played_71 : decode cX6_played 71 = .ok (.ireturn, 1) := by decide +kernel
set_option maxRecDepth 20000 in
theorem ggX6_lateOn_X6_goesFor : GoodIn wsX6_lateOn wsX6_goesFor := goodIn_r _ [6, 7, 8, 9, 5, 10, 11, 1, 12, 13, 14, 15, 16, 17, 18, 19, 20, 21, 22, 23, 24, 25, 26, 27, 28, 29, 30, 31, 32, 33, 34, 35, 36, 37, 38, 39, 40, 41, 42, 43, 44, 45, 46, 47, 48, 49, 50, 51, 52, 53, 54, 63, 64, 65, 66, 67, 68, 69, 70, 71, 72, 73, 74, 75, 76, 77, 78] (by decide +kernel) (by decide +kernel)
set_option maxRecDepth 20000 in
theorem gX6_lateOn_X6_goesFor : GoodIn wsX6_lateOn (wsV RX6 110 RX6 yX6_goesFor wsX6_goesFor) := goodIn_app (goodIn_of _ (by decide +kernel)) ggX6_lateOn_X6_goesFor
set_option maxRecDepth 20000 in
theorem ggX6_lateOn_X6_putsBack : GoodIn wsX6_lateOn wsX6_putsBack := goodIn_r _ [58, 59, 1, 60, 61, 5, 62, 63, 64, 65, 66, 67, 68, 69, 70, 71, 72, 73, 74, 75, 76, 77, 78] (by decide +kernel) (by decide +kernel)
set_option maxRecDepth 20000 in
theorem gX6_lateOn_X6_putsBack : GoodIn wsX6_lateOn (wsV RX6 121 RX6 yX6_putsBack wsX6_putsBack) := goodIn_app (goodIn_of _ (by decide +kernel)) ggX6_lateOn_X6_putsBack
