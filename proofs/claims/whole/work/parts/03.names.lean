theorem dX0_isUnder_0 : decode cX0_isUnder 0 = .ok (.iload_n 0, 1) := by decide +kernel
theorem dX0_isUnder_1 : decode cX0_isUnder 1 = .ok (.iload_n 1, 1) := by decide +kernel
theorem dX0_isUnder_2 : decode cX0_isUnder 2 = .ok (.if_icmp .eq 27, 3) := by decide +kernel
theorem dX0_isUnder_5 : decode cX0_isUnder 5 = .ok (.iload_n 1, 1) := by decide +kernel
theorem dX0_isUnder_6 : decode cX0_isUnder 6 = .ok (.ifCond .eq 23, 3) := by decide +kernel
theorem dX0_isUnder_9 : decode cX0_isUnder 9 = .ok (.iload_n 0, 1) := by decide +kernel
theorem dX0_isUnder_10 : decode cX0_isUnder 10 = .ok (.iconst 4, 1) := by decide +kernel
theorem dX0_isUnder_11 : decode cX0_isUnder 11 = .ok (.if_icmp .ne 8, 3) := by decide +kernel
theorem dX0_isUnder_14 : decode cX0_isUnder 14 = .ok (.iload_n 1, 1) := by decide +kernel
theorem dX0_isUnder_15 : decode cX0_isUnder 15 = .ok (.iconst 1, 1) := by decide +kernel
theorem dX0_isUnder_16 : decode cX0_isUnder 16 = .ok (.if_icmp .eq 13, 3) := by decide +kernel
theorem dX0_isUnder_19 : decode cX0_isUnder 19 = .ok (.iload_n 0, 1) := by decide +kernel
theorem dX0_isUnder_20 : decode cX0_isUnder 20 = .ok (.iconst 5, 1) := by decide +kernel
theorem dX0_isUnder_21 : decode cX0_isUnder 21 = .ok (.if_icmp .ne 12, 3) := by decide +kernel
theorem dX0_isUnder_24 : decode cX0_isUnder 24 = .ok (.iload_n 1, 1) := by decide +kernel
theorem dX0_isUnder_25 : decode cX0_isUnder 25 = .ok (.iconst 2, 1) := by decide +kernel
theorem dX0_isUnder_26 : decode cX0_isUnder 26 = .ok (.if_icmp .ne 7, 3) := by decide +kernel
theorem dX0_isUnder_29 : decode cX0_isUnder 29 = .ok (.iconst 1, 1) := by decide +kernel
theorem dX0_isUnder_30 : decode cX0_isUnder 30 = .ok (.goto 4, 3) := by decide +kernel
theorem dX0_isUnder_33 : decode cX0_isUnder 33 = .ok (.iconst 0, 1) := by decide +kernel
theorem dX0_isUnder_34 : decode cX0_isUnder 34 = .ok (.ireturn, 1) := by decide +kernel
theorem dX0_needs_0 : decode cX0_needs 0 = .ok (.iconst 2, 1) := by decide +kernel
theorem dX0_needs_1 : decode cX0_needs 1 = .ok (.iload_n 1, 1) := by decide +kernel
theorem dX0_needs_2 : decode cX0_needs 2 = .ok (.imul, 1) := by decide +kernel
theorem dX0_needs_3 : decode cX0_needs 3 = .ok (.istore_n 2, 1) := by decide +kernel
theorem dX0_needs_4 : decode cX0_needs 4 = .ok (.iload_n 0, 1) := by decide +kernel
theorem dX0_needs_5 : decode cX0_needs 5 = .ok (.tableswitch 49 1 5 #[35, 49, 37, 39, 43], 35) := by decide +kernel
theorem dX0_needs_40 : decode cX0_needs 40 = .ok (.iload_n 2, 1) := by decide +kernel
theorem dX0_needs_41 : decode cX0_needs 41 = .ok (.ireturn, 1) := by decide +kernel
theorem dX0_needs_42 : decode cX0_needs 42 = .ok (.iconst 1, 1) := by decide +kernel
theorem dX0_needs_43 : decode cX0_needs 43 = .ok (.ireturn, 1) := by decide +kernel
theorem dX0_needs_44 : decode cX0_needs 44 = .ok (.iload_n 2, 1) := by decide +kernel
theorem dX0_needs_45 : decode cX0_needs 45 = .ok (.iconst 5, 1) := by decide +kernel
theorem dX0_needs_46 : decode cX0_needs 46 = .ok (.iadd, 1) := by decide +kernel
theorem dX0_needs_47 : decode cX0_needs 47 = .ok (.ireturn, 1) := by decide +kernel
theorem dX0_needs_48 : decode cX0_needs 48 = .ok (.iload_n 1, 1) := by decide +kernel
theorem dX0_needs_49 : decode cX0_needs 49 = .ok (.iload_n 1, 1) := by decide +kernel
theorem dX0_needs_50 : decode cX0_needs 50 = .ok (.iconst 2, 1) := by decide +kernel
theorem dX0_needs_51 : decode cX0_needs 51 = .ok (.idiv, 1) := by decide +kernel
theorem dX0_needs_52 : decode cX0_needs 52 = .ok (.iadd, 1) := by decide +kernel
theorem dX0_needs_53 : decode cX0_needs 53 = .ok (.ireturn, 1) := by decide +kernel
theorem dX0_needs_54 : decode cX0_needs 54 = .ok (.iload_n 1, 1) := by decide +kernel
theorem dX0_needs_55 : decode cX0_needs 55 = .ok (.ireturn, 1) := by decide +kernel
theorem dX0_gives_0 : decode cX0_gives 0 = .ok (.iconst 4, 1) := by decide +kernel
theorem dX0_gives_1 : decode cX0_gives 1 = .ok (.iload_n 1, 1) := by decide +kernel
theorem dX0_gives_2 : decode cX0_gives 2 = .ok (.bipush 30, 2) := by decide +kernel
theorem dX0_gives_4 : decode cX0_gives 4 = .ok (.idiv, 1) := by decide +kernel
theorem dX0_gives_5 : decode cX0_gives 5 = .ok (.isub, 1) := by decide +kernel
theorem dX0_gives_6 : decode cX0_gives 6 = .ok (.istore_n 3, 1) := by decide +kernel
theorem dX0_gives_7 : decode cX0_gives 7 = .ok (.iload_n 2, 1) := by decide +kernel
theorem dX0_gives_8 : decode cX0_gives 8 = .ok (.ifCond .eq 9, 3) := by decide +kernel
theorem dX0_gives_11 : decode cX0_gives 11 = .ok (.iload_n 3, 1) := by decide +kernel
theorem dX0_gives_12 : decode cX0_gives 12 = .ok (.iconst 3, 1) := by decide +kernel
theorem dX0_gives_13 : decode cX0_gives 13 = .ok (.iadd, 1) := by decide +kernel
theorem dX0_gives_14 : decode cX0_gives 14 = .ok (.goto 4, 3) := by decide +kernel
theorem dX0_gives_17 : decode cX0_gives 17 = .ok (.iload_n 3, 1) := by decide +kernel
theorem dX0_gives_18 : decode cX0_gives 18 = .ok (.istore 4, 2) := by decide +kernel
theorem dX0_gives_20 : decode cX0_gives 20 = .ok (.iload_n 3, 1) := by decide +kernel
theorem dX0_gives_21 : decode cX0_gives 21 = .ok (.iconst 1, 1) := by decide +kernel
theorem dX0_gives_22 : decode cX0_gives 22 = .ok (.iadd, 1) := by decide +kernel
theorem dX0_gives_23 : decode cX0_gives 23 = .ok (.istore 5, 2) := by decide +kernel
theorem dX0_gives_25 : decode cX0_gives 25 = .ok (.iload_n 0, 1) := by decide +kernel
theorem dX0_gives_26 : decode cX0_gives 26 = .ok (.tableswitch 76 1 5 #[34, 41, 48, 50, 59], 34) := by decide +kernel
theorem dX0_gives_60 : decode cX0_gives 60 = .ok (.iconst 0, 1) := by decide +kernel
theorem dX0_gives_61 : decode cX0_gives 61 = .ok (.iload 4, 2) := by decide +kernel
theorem dX0_gives_63 : decode cX0_gives 63 = .ok (.invokestatic 9, 3) := by decide +kernel
theorem dX0_gives_66 : decode cX0_gives 66 = .ok (.ireturn, 1) := by decide +kernel
theorem dX0_gives_67 : decode cX0_gives 67 = .ok (.iconst 0, 1) := by decide +kernel
theorem dX0_gives_68 : decode cX0_gives 68 = .ok (.iload 5, 2) := by decide +kernel
theorem dX0_gives_70 : decode cX0_gives 70 = .ok (.invokestatic 9, 3) := by decide +kernel
theorem dX0_gives_73 : decode cX0_gives 73 = .ok (.ireturn, 1) := by decide +kernel
theorem dX0_gives_74 : decode cX0_gives 74 = .ok (.iconst 1, 1) := by decide +kernel
theorem dX0_gives_75 : decode cX0_gives 75 = .ok (.ireturn, 1) := by decide +kernel
theorem dX0_gives_76 : decode cX0_gives 76 = .ok (.iconst 0, 1) := by decide +kernel
theorem dX0_gives_77 : decode cX0_gives 77 = .ok (.iload 4, 2) := by decide +kernel
theorem dX0_gives_79 : decode cX0_gives 79 = .ok (.iconst 1, 1) := by decide +kernel
theorem dX0_gives_80 : decode cX0_gives 80 = .ok (.isub, 1) := by decide +kernel
theorem dX0_gives_81 : decode cX0_gives 81 = .ok (.invokestatic 9, 3) := by decide +kernel
theorem dX0_gives_84 : decode cX0_gives 84 = .ok (.ireturn, 1) := by decide +kernel
theorem dX0_gives_85 : decode cX0_gives 85 = .ok (.iload_n 1, 1) := by decide +kernel
theorem dX0_gives_86 : decode cX0_gives 86 = .ok (.bipush 80, 2) := by decide +kernel
theorem dX0_gives_88 : decode cX0_gives 88 = .ok (.if_icmp .le 7, 3) := by decide +kernel
theorem dX0_gives_91 : decode cX0_gives 91 = .ok (.iconst 0, 1) := by decide +kernel
theorem dX0_gives_92 : decode cX0_gives 92 = .ok (.goto 9, 3) := by decide +kernel
theorem dX0_gives_95 : decode cX0_gives 95 = .ok (.iconst 0, 1) := by decide +kernel
theorem dX0_gives_96 : decode cX0_gives 96 = .ok (.iload 5, 2) := by decide +kernel
theorem dX0_gives_98 : decode cX0_gives 98 = .ok (.invokestatic 9, 3) := by decide +kernel
theorem dX0_gives_101 : decode cX0_gives 101 = .ok (.ireturn, 1) := by decide +kernel
theorem dX0_gives_102 : decode cX0_gives 102 = .ok (.iconst 0, 1) := by decide +kernel
theorem dX0_gives_103 : decode cX0_gives 103 = .ok (.iload_n 3, 1) := by decide +kernel
theorem dX0_gives_104 : decode cX0_gives 104 = .ok (.invokestatic 9, 3) := by decide +kernel
theorem dX0_gives_107 : decode cX0_gives 107 = .ok (.ireturn, 1) := by decide +kernel
theorem dX0_calls_0 : decode cX0_calls 0 = .ok (.bipush 50, 2) := by decide +kernel
theorem dX0_calls_2 : decode cX0_calls 2 = .ok (.iload_n 2, 1) := by decide +kernel
theorem dX0_calls_3 : decode cX0_calls 3 = .ok (.iadd, 1) := by decide +kernel
theorem dX0_calls_4 : decode cX0_calls 4 = .ok (.istore 5, 2) := by decide +kernel
theorem dX0_calls_6 : decode cX0_calls 6 = .ok (.iload 5, 2) := by decide +kernel
theorem dX0_calls_8 : decode cX0_calls 8 = .ok (.iload_n 1, 1) := by decide +kernel
theorem dX0_calls_9 : decode cX0_calls 9 = .ok (.iadd, 1) := by decide +kernel
theorem dX0_calls_10 : decode cX0_calls 10 = .ok (.istore 6, 2) := by decide +kernel
theorem dX0_calls_12 : decode cX0_calls 12 = .ok (.iload 5, 2) := by decide +kernel
theorem dX0_calls_14 : decode cX0_calls 14 = .ok (.iconst 5, 1) := by decide +kernel
theorem dX0_calls_15 : decode cX0_calls 15 = .ok (.isub, 1) := by decide +kernel
theorem dX0_calls_16 : decode cX0_calls 16 = .ok (.istore 7, 2) := by decide +kernel
theorem dX0_calls_18 : decode cX0_calls 18 = .ok (.iload_n 0, 1) := by decide +kernel
theorem dX0_calls_19 : decode cX0_calls 19 = .ok (.tableswitch 83 1 5 #[33, 40, 47, 50, 67], 33) := by decide +kernel
theorem dX0_calls_52 : decode cX0_calls 52 = .ok (.iconst 0, 1) := by decide +kernel
theorem dX0_calls_53 : decode cX0_calls 53 = .ok (.iload 6, 2) := by decide +kernel
theorem dX0_calls_55 : decode cX0_calls 55 = .ok (.invokestatic 9, 3) := by decide +kernel
theorem dX0_calls_58 : decode cX0_calls 58 = .ok (.ireturn, 1) := by decide +kernel
theorem dX0_calls_59 : decode cX0_calls 59 = .ok (.iconst 0, 1) := by decide +kernel
theorem dX0_calls_60 : decode cX0_calls 60 = .ok (.iload 7, 2) := by decide +kernel
theorem dX0_calls_62 : decode cX0_calls 62 = .ok (.invokestatic 9, 3) := by decide +kernel
theorem dX0_calls_65 : decode cX0_calls 65 = .ok (.ireturn, 1) := by decide +kernel
theorem dX0_calls_66 : decode cX0_calls 66 = .ok (.bipush 60, 2) := by decide +kernel
theorem dX0_calls_68 : decode cX0_calls 68 = .ok (.ireturn, 1) := by decide +kernel
theorem dX0_calls_69 : decode cX0_calls 69 = .ok (.iload_n 3, 1) := by decide +kernel
theorem dX0_calls_70 : decode cX0_calls 70 = .ok (.bipush 50, 2) := by decide +kernel
theorem dX0_calls_72 : decode cX0_calls 72 = .ok (.if_icmp .le 7, 3) := by decide +kernel
theorem dX0_calls_75 : decode cX0_calls 75 = .ok (.iconst 0, 1) := by decide +kernel
theorem dX0_calls_76 : decode cX0_calls 76 = .ok (.goto 9, 3) := by decide +kernel
theorem dX0_calls_79 : decode cX0_calls 79 = .ok (.iconst 0, 1) := by decide +kernel
theorem dX0_calls_80 : decode cX0_calls 80 = .ok (.iload 6, 2) := by decide +kernel
theorem dX0_calls_82 : decode cX0_calls 82 = .ok (.invokestatic 9, 3) := by decide +kernel
theorem dX0_calls_85 : decode cX0_calls 85 = .ok (.ireturn, 1) := by decide +kernel
theorem dX0_calls_86 : decode cX0_calls 86 = .ok (.iload 4, 2) := by decide +kernel
theorem dX0_calls_88 : decode cX0_calls 88 = .ok (.ifCond .eq 7, 3) := by decide +kernel
theorem dX0_calls_91 : decode cX0_calls 91 = .ok (.iconst 1, 1) := by decide +kernel
theorem dX0_calls_92 : decode cX0_calls 92 = .ok (.goto 9, 3) := by decide +kernel
theorem dX0_calls_95 : decode cX0_calls 95 = .ok (.iconst 0, 1) := by decide +kernel
theorem dX0_calls_96 : decode cX0_calls 96 = .ok (.iload 7, 2) := by decide +kernel
theorem dX0_calls_98 : decode cX0_calls 98 = .ok (.invokestatic 9, 3) := by decide +kernel
theorem dX0_calls_101 : decode cX0_calls 101 = .ok (.ireturn, 1) := by decide +kernel
theorem dX0_calls_102 : decode cX0_calls 102 = .ok (.iconst 0, 1) := by decide +kernel
theorem dX0_calls_103 : decode cX0_calls 103 = .ok (.iload 5, 2) := by decide +kernel
theorem dX0_calls_105 : decode cX0_calls 105 = .ok (.invokestatic 9, 3) := by decide +kernel
theorem dX0_calls_108 : decode cX0_calls 108 = .ok (.ireturn, 1) := by decide +kernel
theorem dX0_tires_0 : decode cX0_tires 0 = .ok (.iload_n 0, 1) := by decide +kernel
theorem dX0_tires_1 : decode cX0_tires 1 = .ok (.tableswitch 45 1 5 #[35, 38, 41, 35, 43], 35) := by decide +kernel
theorem dX0_tires_36 : decode cX0_tires 36 = .ok (.bipush 10, 2) := by decide +kernel
theorem dX0_tires_38 : decode cX0_tires 38 = .ok (.ireturn, 1) := by decide +kernel
theorem dX0_tires_39 : decode cX0_tires 39 = .ok (.bipush (-3), 2) := by decide +kernel
theorem dX0_tires_41 : decode cX0_tires 41 = .ok (.ireturn, 1) := by decide +kernel
theorem dX0_tires_42 : decode cX0_tires 42 = .ok (.iconst 0, 1) := by decide +kernel
theorem dX0_tires_43 : decode cX0_tires 43 = .ok (.ireturn, 1) := by decide +kernel
theorem dX0_tires_44 : decode cX0_tires 44 = .ok (.iconst (-1), 1) := by decide +kernel
theorem dX0_tires_45 : decode cX0_tires 45 = .ok (.ireturn, 1) := by decide +kernel
theorem dX0_tires_46 : decode cX0_tires 46 = .ok (.bipush 6, 2) := by decide +kernel
theorem dX0_tires_48 : decode cX0_tires 48 = .ok (.ireturn, 1) := by decide +kernel
theorem dX1_init_0 : decode cX1_init 0 = .ok (.aload_n 0, 1) := by decide +kernel
theorem dX1_init_1 : decode cX1_init 1 = .ok (.invokespecial 3, 3) := by decide +kernel
theorem dX1_init_4 : decode cX1_init 4 = .ok (.aload_n 0, 1) := by decide +kernel
theorem dX1_init_5 : decode cX1_init 5 = .ok (.bipush 7, 2) := by decide +kernel
theorem dX1_init_7 : decode cX1_init 7 = .ok (.newarray .int, 2) := by decide +kernel
theorem dX1_init_9 : decode cX1_init 9 = .ok (.putfield 11, 3) := by decide +kernel
theorem dX1_init_12 : decode cX1_init 12 = .ok (.aload_n 0, 1) := by decide +kernel
theorem dX1_init_13 : decode cX1_init 13 = .ok (.bipush 8, 2) := by decide +kernel
theorem dX1_init_15 : decode cX1_init 15 = .ok (.newarray .int, 2) := by decide +kernel
theorem dX1_init_17 : decode cX1_init 17 = .ok (.putfield 15, 3) := by decide +kernel
theorem dX1_init_20 : decode cX1_init 20 = .ok (.aload_n 0, 1) := by decide +kernel
theorem dX1_init_21 : decode cX1_init 21 = .ok (.bipush 8, 2) := by decide +kernel
theorem dX1_init_23 : decode cX1_init 23 = .ok (.newarray .int, 2) := by decide +kernel
theorem dX1_init_25 : decode cX1_init 25 = .ok (.putfield 18, 3) := by decide +kernel
theorem dX1_init_28 : decode cX1_init 28 = .ok (.aload_n 0, 1) := by decide +kernel
theorem dX1_init_29 : decode cX1_init 29 = .ok (.bipush 8, 2) := by decide +kernel
theorem dX1_init_31 : decode cX1_init 31 = .ok (.newarray .int, 2) := by decide +kernel
theorem dX1_init_33 : decode cX1_init 33 = .ok (.putfield 21, 3) := by decide +kernel
theorem dX1_init_36 : decode cX1_init 36 = .ok (.aload_n 0, 1) := by decide +kernel
theorem dX1_init_37 : decode cX1_init 37 = .ok (.bipush 8, 2) := by decide +kernel
theorem dX1_init_39 : decode cX1_init 39 = .ok (.newarray .int, 2) := by decide +kernel
theorem dX1_init_41 : decode cX1_init 41 = .ok (.putfield 24, 3) := by decide +kernel
theorem dX1_init_44 : decode cX1_init 44 = .ok (.aload_n 0, 1) := by decide +kernel
theorem dX1_init_45 : decode cX1_init 45 = .ok (.bipush 8, 2) := by decide +kernel
theorem dX1_init_47 : decode cX1_init 47 = .ok (.newarray .int, 2) := by decide +kernel
theorem dX1_init_49 : decode cX1_init 49 = .ok (.putfield 27, 3) := by decide +kernel
theorem dX1_init_52 : decode cX1_init 52 = .ok (.aload_n 0, 1) := by decide +kernel
theorem dX1_init_53 : decode cX1_init 53 = .ok (.getfield 11, 3) := by decide +kernel
theorem dX1_init_56 : decode cX1_init 56 = .ok (.iconst 5, 1) := by decide +kernel
theorem dX1_init_57 : decode cX1_init 57 = .ok (.iconst 1, 1) := by decide +kernel
theorem dX1_init_58 : decode cX1_init 58 = .ok (.iastore, 1) := by decide +kernel
theorem dX1_init_59 : decode cX1_init 59 = .ok (.aload_n 0, 1) := by decide +kernel
theorem dX1_init_60 : decode cX1_init 60 = .ok (.getfield 11, 3) := by decide +kernel
theorem dX1_init_63 : decode cX1_init 63 = .ok (.bipush 6, 2) := by decide +kernel
theorem dX1_init_65 : decode cX1_init 65 = .ok (.iconst 1, 1) := by decide +kernel
theorem dX1_init_66 : decode cX1_init 66 = .ok (.iastore, 1) := by decide +kernel
theorem dX1_init_67 : decode cX1_init 67 = .ok (.return_, 1) := by decide +kernel
theorem dX1_become_0 : decode cX1_become 0 = .ok (.aload_n 0, 1) := by decide +kernel
theorem dX1_become_1 : decode cX1_become 1 = .ok (.aload_n 1, 1) := by decide +kernel
theorem dX1_become_2 : decode cX1_become 2 = .ok (.getfield 30, 3) := by decide +kernel
theorem dX1_become_5 : decode cX1_become 5 = .ok (.putfield 30, 3) := by decide +kernel
theorem dX1_become_8 : decode cX1_become 8 = .ok (.aload_n 0, 1) := by decide +kernel
theorem dX1_become_9 : decode cX1_become 9 = .ok (.aload_n 1, 1) := by decide +kernel
theorem dX1_become_10 : decode cX1_become 10 = .ok (.getfield 34, 3) := by decide +kernel
theorem dX1_become_13 : decode cX1_become 13 = .ok (.putfield 34, 3) := by decide +kernel
theorem dX1_become_16 : decode cX1_become 16 = .ok (.aload_n 0, 1) := by decide +kernel
theorem dX1_become_17 : decode cX1_become 17 = .ok (.aload_n 1, 1) := by decide +kernel
theorem dX1_become_18 : decode cX1_become 18 = .ok (.getfield 37, 3) := by decide +kernel
theorem dX1_become_21 : decode cX1_become 21 = .ok (.putfield 37, 3) := by decide +kernel
theorem dX1_become_24 : decode cX1_become 24 = .ok (.aload_n 0, 1) := by decide +kernel
theorem dX1_become_25 : decode cX1_become 25 = .ok (.aload_n 1, 1) := by decide +kernel
theorem dX1_become_26 : decode cX1_become 26 = .ok (.getfield 40, 3) := by decide +kernel
theorem dX1_become_29 : decode cX1_become 29 = .ok (.putfield 40, 3) := by decide +kernel
theorem dX1_become_32 : decode cX1_become 32 = .ok (.aload_n 1, 1) := by decide +kernel
theorem dX1_become_33 : decode cX1_become 33 = .ok (.getfield 11, 3) := by decide +kernel
theorem dX1_become_36 : decode cX1_become 36 = .ok (.iconst 0, 1) := by decide +kernel
theorem dX1_become_37 : decode cX1_become 37 = .ok (.aload_n 0, 1) := by decide +kernel
theorem dX1_become_38 : decode cX1_become 38 = .ok (.getfield 11, 3) := by decide +kernel
theorem dX1_become_41 : decode cX1_become 41 = .ok (.iconst 0, 1) := by decide +kernel
theorem dX1_become_42 : decode cX1_become 42 = .ok (.bipush 7, 2) := by decide +kernel
theorem dX1_become_44 : decode cX1_become 44 = .ok (.invokestatic 43, 3) := by decide +kernel
theorem dX1_become_47 : decode cX1_become 47 = .ok (.aload_n 1, 1) := by decide +kernel
theorem dX1_become_48 : decode cX1_become 48 = .ok (.getfield 15, 3) := by decide +kernel
theorem dX1_become_51 : decode cX1_become 51 = .ok (.iconst 0, 1) := by decide +kernel
theorem dX1_become_52 : decode cX1_become 52 = .ok (.aload_n 0, 1) := by decide +kernel
theorem dX1_become_53 : decode cX1_become 53 = .ok (.getfield 15, 3) := by decide +kernel
theorem dX1_become_56 : decode cX1_become 56 = .ok (.iconst 0, 1) := by decide +kernel
theorem dX1_become_57 : decode cX1_become 57 = .ok (.bipush 8, 2) := by decide +kernel
theorem dX1_become_59 : decode cX1_become 59 = .ok (.invokestatic 43, 3) := by decide +kernel
theorem dX1_become_62 : decode cX1_become 62 = .ok (.aload_n 1, 1) := by decide +kernel
theorem dX1_become_63 : decode cX1_become 63 = .ok (.getfield 18, 3) := by decide +kernel
theorem dX1_become_66 : decode cX1_become 66 = .ok (.iconst 0, 1) := by decide +kernel
theorem dX1_become_67 : decode cX1_become 67 = .ok (.aload_n 0, 1) := by decide +kernel
theorem dX1_become_68 : decode cX1_become 68 = .ok (.getfield 18, 3) := by decide +kernel
theorem dX1_become_71 : decode cX1_become 71 = .ok (.iconst 0, 1) := by decide +kernel
theorem dX1_become_72 : decode cX1_become 72 = .ok (.bipush 8, 2) := by decide +kernel
theorem dX1_become_74 : decode cX1_become 74 = .ok (.invokestatic 43, 3) := by decide +kernel
theorem dX1_become_77 : decode cX1_become 77 = .ok (.aload_n 1, 1) := by decide +kernel
theorem dX1_become_78 : decode cX1_become 78 = .ok (.getfield 21, 3) := by decide +kernel
theorem dX1_become_81 : decode cX1_become 81 = .ok (.iconst 0, 1) := by decide +kernel
theorem dX1_become_82 : decode cX1_become 82 = .ok (.aload_n 0, 1) := by decide +kernel
theorem dX1_become_83 : decode cX1_become 83 = .ok (.getfield 21, 3) := by decide +kernel
theorem dX1_become_86 : decode cX1_become 86 = .ok (.iconst 0, 1) := by decide +kernel
theorem dX1_become_87 : decode cX1_become 87 = .ok (.bipush 8, 2) := by decide +kernel
theorem dX1_become_89 : decode cX1_become 89 = .ok (.invokestatic 43, 3) := by decide +kernel
theorem dX1_become_92 : decode cX1_become 92 = .ok (.aload_n 1, 1) := by decide +kernel
theorem dX1_become_93 : decode cX1_become 93 = .ok (.getfield 24, 3) := by decide +kernel
theorem dX1_become_96 : decode cX1_become 96 = .ok (.iconst 0, 1) := by decide +kernel
theorem dX1_become_97 : decode cX1_become 97 = .ok (.aload_n 0, 1) := by decide +kernel
theorem dX1_become_98 : decode cX1_become 98 = .ok (.getfield 24, 3) := by decide +kernel
theorem dX1_become_101 : decode cX1_become 101 = .ok (.iconst 0, 1) := by decide +kernel
theorem dX1_become_102 : decode cX1_become 102 = .ok (.bipush 8, 2) := by decide +kernel
theorem dX1_become_104 : decode cX1_become 104 = .ok (.invokestatic 43, 3) := by decide +kernel
theorem dX1_become_107 : decode cX1_become 107 = .ok (.aload_n 1, 1) := by decide +kernel
theorem dX1_become_108 : decode cX1_become 108 = .ok (.getfield 27, 3) := by decide +kernel
theorem dX1_become_111 : decode cX1_become 111 = .ok (.iconst 0, 1) := by decide +kernel
theorem dX1_become_112 : decode cX1_become 112 = .ok (.aload_n 0, 1) := by decide +kernel
theorem dX1_become_113 : decode cX1_become 113 = .ok (.getfield 27, 3) := by decide +kernel
theorem dX1_become_116 : decode cX1_become 116 = .ok (.iconst 0, 1) := by decide +kernel
theorem dX1_become_117 : decode cX1_become 117 = .ok (.bipush 8, 2) := by decide +kernel
theorem dX1_become_119 : decode cX1_become 119 = .ok (.invokestatic 43, 3) := by decide +kernel
theorem dX1_become_122 : decode cX1_become 122 = .ok (.return_, 1) := by decide +kernel
theorem dX1_isFull_0 : decode cX1_isFull 0 = .ok (.aload_n 0, 1) := by decide +kernel
theorem dX1_isFull_1 : decode cX1_isFull 1 = .ok (.getfield 40, 3) := by decide +kernel
theorem dX1_isFull_4 : decode cX1_isFull 4 = .ok (.bipush 8, 2) := by decide +kernel
theorem dX1_isFull_6 : decode cX1_isFull 6 = .ok (.if_icmp .lt 7, 3) := by decide +kernel
theorem dX1_isFull_9 : decode cX1_isFull 9 = .ok (.iconst 1, 1) := by decide +kernel
theorem dX1_isFull_10 : decode cX1_isFull 10 = .ok (.goto 4, 3) := by decide +kernel
theorem dX1_isFull_13 : decode cX1_isFull 13 = .ok (.iconst 0, 1) := by decide +kernel
theorem dX1_isFull_14 : decode cX1_isFull 14 = .ok (.ireturn, 1) := by decide +kernel
set_option maxRecDepth 20000 in
theorem ggX1_add_X1_isFull : GoodIn wsX1_add wsX1_isFull := goodIn_r _ [11, 1, 12, 13, 14, 15, 16, 17, 18, 19, 20, 21] (by decide +kernel) (by decide +kernel)
set_option maxRecDepth 20000 in
theorem gX1_add_X1_isFull : GoodIn wsX1_add (wsV RX1 49 RX1 yX1_isFull wsX1_isFull) := goodIn_app (goodIn_of _ (by decide +kernel)) ggX1_add_X1_isFull
theorem dX1_add_0 : decode cX1_add 0 = .ok (.aload_n 0, 1) := by decide +kernel
theorem dX1_add_1 : decode cX1_add 1 = .ok (.invokevirtual 49, 3) := by decide +kernel
theorem dX1_add_4 : decode cX1_add 4 = .ok (.ifCond .eq 5, 3) := by decide +kernel
theorem dX1_add_7 : decode cX1_add 7 = .ok (.iconst (-1), 1) := by decide +kernel
theorem dX1_add_8 : decode cX1_add 8 = .ok (.ireturn, 1) := by decide +kernel
theorem dX1_add_9 : decode cX1_add 9 = .ok (.aload_n 0, 1) := by decide +kernel
theorem dX1_add_10 : decode cX1_add 10 = .ok (.getfield 40, 3) := by decide +kernel
theorem dX1_add_13 : decode cX1_add 13 = .ok (.istore 5, 2) := by decide +kernel
theorem dX1_add_15 : decode cX1_add 15 = .ok (.aload_n 0, 1) := by decide +kernel
theorem dX1_add_16 : decode cX1_add 16 = .ok (.getfield 15, 3) := by decide +kernel
theorem dX1_add_19 : decode cX1_add 19 = .ok (.iload 5, 2) := by decide +kernel
theorem dX1_add_21 : decode cX1_add 21 = .ok (.iload_n 1, 1) := by decide +kernel
theorem dX1_add_22 : decode cX1_add 22 = .ok (.iastore, 1) := by decide +kernel
theorem dX1_add_23 : decode cX1_add 23 = .ok (.aload_n 0, 1) := by decide +kernel
theorem dX1_add_24 : decode cX1_add 24 = .ok (.getfield 18, 3) := by decide +kernel
theorem dX1_add_27 : decode cX1_add 27 = .ok (.iload 5, 2) := by decide +kernel
theorem dX1_add_29 : decode cX1_add 29 = .ok (.iload_n 2, 1) := by decide +kernel
theorem dX1_add_30 : decode cX1_add 30 = .ok (.iastore, 1) := by decide +kernel
theorem dX1_add_31 : decode cX1_add 31 = .ok (.aload_n 0, 1) := by decide +kernel
theorem dX1_add_32 : decode cX1_add 32 = .ok (.getfield 21, 3) := by decide +kernel
theorem dX1_add_35 : decode cX1_add 35 = .ok (.iload 5, 2) := by decide +kernel
theorem dX1_add_37 : decode cX1_add 37 = .ok (.iconst 0, 1) := by decide +kernel
theorem dX1_add_38 : decode cX1_add 38 = .ok (.iastore, 1) := by decide +kernel
theorem dX1_add_39 : decode cX1_add 39 = .ok (.aload_n 0, 1) := by decide +kernel
theorem dX1_add_40 : decode cX1_add 40 = .ok (.getfield 24, 3) := by decide +kernel
theorem dX1_add_43 : decode cX1_add 43 = .ok (.iload 5, 2) := by decide +kernel
theorem dX1_add_45 : decode cX1_add 45 = .ok (.iload_n 3, 1) := by decide +kernel
theorem dX1_add_46 : decode cX1_add 46 = .ok (.iastore, 1) := by decide +kernel
theorem dX1_add_47 : decode cX1_add 47 = .ok (.aload_n 0, 1) := by decide +kernel
theorem dX1_add_48 : decode cX1_add 48 = .ok (.getfield 27, 3) := by decide +kernel
theorem dX1_add_51 : decode cX1_add 51 = .ok (.iload 5, 2) := by decide +kernel
theorem dX1_add_53 : decode cX1_add 53 = .ok (.iload 4, 2) := by decide +kernel
theorem dX1_add_55 : decode cX1_add 55 = .ok (.iastore, 1) := by decide +kernel
theorem dX1_add_56 : decode cX1_add 56 = .ok (.aload_n 0, 1) := by decide +kernel
theorem dX1_add_57 : decode cX1_add 57 = .ok (.dup, 1) := by decide +kernel
theorem dX1_add_58 : decode cX1_add 58 = .ok (.getfield 40, 3) := by decide +kernel
theorem dX1_add_61 : decode cX1_add 61 = .ok (.iconst 1, 1) := by decide +kernel
theorem dX1_add_62 : decode cX1_add 62 = .ok (.iadd, 1) := by decide +kernel
theorem dX1_add_63 : decode cX1_add 63 = .ok (.putfield 40, 3) := by decide +kernel
theorem dX1_add_66 : decode cX1_add 66 = .ok (.iload 5, 2) := by decide +kernel
theorem dX1_add_68 : decode cX1_add 68 = .ok (.ireturn, 1) := by decide +kernel
set_option maxRecDepth 20000 in
theorem ggX1_isHoliday_J9_floorMod_7cf53 : GoodIn wsX1_isHoliday wsJ9_floorMod_7cf53 := goodIn_r _ [6] (by decide +kernel) (by decide +kernel)
set_option maxRecDepth 20000 in
theorem gX1_isHoliday_J9_floorMod_7cf53 : GoodIn wsX1_isHoliday (va_wsS RX1 53 yJ9_floorMod_7cf53 wsJ9_floorMod_7cf53) := goodIn_app (goodIn_of _ (by decide +kernel)) ggX1_isHoliday_J9_floorMod_7cf53
theorem dX1_isHoliday_0 : decode cX1_isHoliday 0 = .ok (.aload_n 0, 1) := by decide +kernel
theorem dX1_isHoliday_1 : decode cX1_isHoliday 1 = .ok (.getfield 11, 3) := by decide +kernel
theorem dX1_isHoliday_4 : decode cX1_isHoliday 4 = .ok (.aload_n 0, 1) := by decide +kernel
theorem dX1_isHoliday_5 : decode cX1_isHoliday 5 = .ok (.getfield 30, 3) := by decide +kernel
theorem dX1_isHoliday_8 : decode cX1_isHoliday 8 = .ok (.bipush 7, 2) := by decide +kernel
theorem dX1_isHoliday_10 : decode cX1_isHoliday 10 = .ok (.invokestatic 53, 3) := by decide +kernel
theorem dX1_isHoliday_13 : decode cX1_isHoliday 13 = .ok (.iaload, 1) := by decide +kernel
theorem dX1_isHoliday_14 : decode cX1_isHoliday 14 = .ok (.iconst 1, 1) := by decide +kernel
theorem dX1_isHoliday_15 : decode cX1_isHoliday 15 = .ok (.if_icmp .ne 7, 3) := by decide +kernel
theorem dX1_isHoliday_18 : decode cX1_isHoliday 18 = .ok (.iconst 1, 1) := by decide +kernel
theorem dX1_isHoliday_19 : decode cX1_isHoliday 19 = .ok (.goto 4, 3) := by decide +kernel
theorem dX1_isHoliday_22 : decode cX1_isHoliday 22 = .ok (.iconst 0, 1) := by decide +kernel
theorem dX1_isHoliday_23 : decode cX1_isHoliday 23 = .ok (.ireturn, 1) := by decide +kernel
theorem dX1_holidays_0 : decode cX1_holidays 0 = .ok (.iconst 0, 1) := by decide +kernel
theorem dX1_holidays_1 : decode cX1_holidays 1 = .ok (.istore_n 1, 1) := by decide +kernel
theorem dX1_holidays_2 : decode cX1_holidays 2 = .ok (.iconst 0, 1) := by decide +kernel
theorem dX1_holidays_3 : decode cX1_holidays 3 = .ok (.istore_n 2, 1) := by decide +kernel
theorem dX1_holidays_4 : decode cX1_holidays 4 = .ok (.iload_n 2, 1) := by decide +kernel
theorem dX1_holidays_5 : decode cX1_holidays 5 = .ok (.bipush 7, 2) := by decide +kernel
theorem dX1_holidays_7 : decode cX1_holidays 7 = .ok (.if_icmp .ge 18, 3) := by decide +kernel
theorem dX1_holidays_10 : decode cX1_holidays 10 = .ok (.iload_n 1, 1) := by decide +kernel
theorem dX1_holidays_11 : decode cX1_holidays 11 = .ok (.aload_n 0, 1) := by decide +kernel
theorem dX1_holidays_12 : decode cX1_holidays 12 = .ok (.getfield 11, 3) := by decide +kernel
theorem dX1_holidays_15 : decode cX1_holidays 15 = .ok (.iload_n 2, 1) := by decide +kernel
theorem dX1_holidays_16 : decode cX1_holidays 16 = .ok (.iaload, 1) := by decide +kernel
theorem dX1_holidays_17 : decode cX1_holidays 17 = .ok (.iadd, 1) := by decide +kernel
theorem dX1_holidays_18 : decode cX1_holidays 18 = .ok (.istore_n 1, 1) := by decide +kernel
theorem dX1_holidays_19 : decode cX1_holidays 19 = .ok (.iinc 2 1, 3) := by decide +kernel
theorem dX1_holidays_22 : decode cX1_holidays 22 = .ok (.goto (-18), 3) := by decide +kernel
theorem dX1_holidays_25 : decode cX1_holidays 25 = .ok (.iload_n 1, 1) := by decide +kernel
theorem dX1_holidays_26 : decode cX1_holidays 26 = .ok (.ireturn, 1) := by decide +kernel
theorem dX1_allPoints_0 : decode cX1_allPoints 0 = .ok (.iconst 0, 1) := by decide +kernel
theorem dX1_allPoints_1 : decode cX1_allPoints 1 = .ok (.istore_n 1, 1) := by decide +kernel
theorem dX1_allPoints_2 : decode cX1_allPoints 2 = .ok (.iconst 0, 1) := by decide +kernel
theorem dX1_allPoints_3 : decode cX1_allPoints 3 = .ok (.istore_n 2, 1) := by decide +kernel
theorem dX1_allPoints_4 : decode cX1_allPoints 4 = .ok (.iload_n 2, 1) := by decide +kernel
theorem dX1_allPoints_5 : decode cX1_allPoints 5 = .ok (.aload_n 0, 1) := by decide +kernel
theorem dX1_allPoints_6 : decode cX1_allPoints 6 = .ok (.getfield 40, 3) := by decide +kernel
theorem dX1_allPoints_9 : decode cX1_allPoints 9 = .ok (.if_icmp .ge 18, 3) := by decide +kernel
theorem dX1_allPoints_12 : decode cX1_allPoints 12 = .ok (.iload_n 1, 1) := by decide +kernel
theorem dX1_allPoints_13 : decode cX1_allPoints 13 = .ok (.aload_n 0, 1) := by decide +kernel
theorem dX1_allPoints_14 : decode cX1_allPoints 14 = .ok (.getfield 21, 3) := by decide +kernel
theorem dX1_allPoints_17 : decode cX1_allPoints 17 = .ok (.iload_n 2, 1) := by decide +kernel
theorem dX1_allPoints_18 : decode cX1_allPoints 18 = .ok (.iaload, 1) := by decide +kernel
theorem dX1_allPoints_19 : decode cX1_allPoints 19 = .ok (.iadd, 1) := by decide +kernel
theorem dX1_allPoints_20 : decode cX1_allPoints 20 = .ok (.istore_n 1, 1) := by decide +kernel
theorem dX1_allPoints_21 : decode cX1_allPoints 21 = .ok (.iinc 2 1, 3) := by decide +kernel
theorem dX1_allPoints_24 : decode cX1_allPoints 24 = .ok (.goto (-20), 3) := by decide +kernel
theorem dX1_allPoints_27 : decode cX1_allPoints 27 = .ok (.iload_n 1, 1) := by decide +kernel
theorem dX1_allPoints_28 : decode cX1_allPoints 28 = .ok (.ireturn, 1) := by decide +kernel
set_option maxRecDepth 20000 in
theorem ggX1_needs_X0_needs : GoodIn wsX1_needs wsX0_needs := goodIn_r _ [6] (by decide +kernel) (by decide +kernel)
set_option maxRecDepth 20000 in
theorem gX1_needs_X0_needs : GoodIn wsX1_needs (va_wsS RX1 59 yX0_needs wsX0_needs) := goodIn_app (goodIn_of _ (by decide +kernel)) ggX1_needs_X0_needs
theorem dX1_needs_0 : decode cX1_needs 0 = .ok (.aload_n 0, 1) := by decide +kernel
theorem dX1_needs_1 : decode cX1_needs 1 = .ok (.getfield 15, 3) := by decide +kernel
theorem dX1_needs_4 : decode cX1_needs 4 = .ok (.iload_n 1, 1) := by decide +kernel
theorem dX1_needs_5 : decode cX1_needs 5 = .ok (.iaload, 1) := by decide +kernel
theorem dX1_needs_6 : decode cX1_needs 6 = .ok (.aload_n 0, 1) := by decide +kernel
theorem dX1_needs_7 : decode cX1_needs 7 = .ok (.getfield 18, 3) := by decide +kernel
theorem dX1_needs_10 : decode cX1_needs 10 = .ok (.iload_n 1, 1) := by decide +kernel
theorem dX1_needs_11 : decode cX1_needs 11 = .ok (.iaload, 1) := by decide +kernel
theorem dX1_needs_12 : decode cX1_needs 12 = .ok (.invokestatic 59, 3) := by decide +kernel
theorem dX1_needs_15 : decode cX1_needs 15 = .ok (.ireturn, 1) := by decide +kernel
set_option maxRecDepth 20000 in
theorem ggX1_gives_X1_isHoliday : GoodIn wsX1_gives wsX1_isHoliday := goodIn_r _ [7, 8, 9, 10, 11, 12, 13, 22, 23, 24, 25, 26, 27, 28, 29, 30, 31] (by decide +kernel) (by decide +kernel)
set_option maxRecDepth 20000 in
theorem gX1_gives_X1_isHoliday : GoodIn wsX1_gives (wsV RX1 64 RX1 yX1_isHoliday wsX1_isHoliday) := goodIn_app (goodIn_of _ (by decide +kernel)) ggX1_gives_X1_isHoliday
set_option maxRecDepth 20000 in
theorem ggX1_gives_X0_gives : GoodIn wsX1_gives wsX0_gives := goodIn_r _ [17, 18, 19, 20, 21] (by decide +kernel) (by decide +kernel)
set_option maxRecDepth 20000 in
theorem gX1_gives_X0_gives : GoodIn wsX1_gives (va_wsS RX1 67 yX0_gives wsX0_gives) := goodIn_app (goodIn_of _ (by decide +kernel)) ggX1_gives_X0_gives
theorem dX1_gives_0 : decode cX1_gives 0 = .ok (.aload_n 0, 1) := by decide +kernel
theorem dX1_gives_1 : decode cX1_gives 1 = .ok (.getfield 15, 3) := by decide +kernel
theorem dX1_gives_4 : decode cX1_gives 4 = .ok (.iload_n 1, 1) := by decide +kernel
theorem dX1_gives_5 : decode cX1_gives 5 = .ok (.iaload, 1) := by decide +kernel
theorem dX1_gives_6 : decode cX1_gives 6 = .ok (.aload_n 0, 1) := by decide +kernel
theorem dX1_gives_7 : decode cX1_gives 7 = .ok (.getfield 34, 3) := by decide +kernel
theorem dX1_gives_10 : decode cX1_gives 10 = .ok (.aload_n 0, 1) := by decide +kernel
theorem dX1_gives_11 : decode cX1_gives 11 = .ok (.invokevirtual 64, 3) := by decide +kernel
theorem dX1_gives_14 : decode cX1_gives 14 = .ok (.invokestatic 67, 3) := by decide +kernel
theorem dX1_gives_17 : decode cX1_gives 17 = .ok (.ireturn, 1) := by decide +kernel
set_option maxRecDepth 20000 in
theorem ggX1_calls_X1_isDone : GoodIn wsX1_calls wsX1_isDone := goodIn_r _ [10, 11, 1, 2, 12, 13, 14, 15, 23, 24, 25, 26, 27, 28, 29, 30, 31, 32] (by decide +kernel) (by decide +kernel)
set_option maxRecDepth 20000 in
theorem gX1_calls_X1_isDone : GoodIn wsX1_calls (wsV RX1 71 RX1 yX1_isDone wsX1_isDone) := goodIn_app (goodIn_of _ (by decide +kernel)) ggX1_calls_X1_isDone
set_option maxRecDepth 20000 in
theorem ggX1_calls_X0_calls : GoodIn wsX1_calls wsX0_calls := goodIn_r _ [18, 19, 20, 21, 22] (by decide +kernel) (by decide +kernel)
set_option maxRecDepth 20000 in
theorem gX1_calls_X0_calls : GoodIn wsX1_calls (va_wsS RX1 75 yX0_calls wsX0_calls) := goodIn_app (goodIn_of _ (by decide +kernel)) ggX1_calls_X0_calls
theorem dX1_calls_0 : decode cX1_calls 0 = .ok (.aload_n 0, 1) := by decide +kernel
theorem dX1_calls_1 : decode cX1_calls 1 = .ok (.iload_n 1, 1) := by decide +kernel
theorem dX1_calls_2 : decode cX1_calls 2 = .ok (.invokevirtual 71, 3) := by decide +kernel
theorem dX1_calls_5 : decode cX1_calls 5 = .ok (.ifCond .eq 7, 3) := by decide +kernel
theorem dX1_calls_8 : decode cX1_calls 8 = .ok (.iload_n 2, 1) := by decide +kernel
theorem dX1_calls_9 : decode cX1_calls 9 = .ok (.goto 6, 3) := by decide +kernel
theorem dX1_calls_12 : decode cX1_calls 12 = .ok (.iload_n 2, 1) := by decide +kernel
theorem dX1_calls_13 : decode cX1_calls 13 = .ok (.iconst 1, 1) := by decide +kernel
theorem dX1_calls_14 : decode cX1_calls 14 = .ok (.isub, 1) := by decide +kernel
theorem dX1_calls_15 : decode cX1_calls 15 = .ok (.istore_n 3, 1) := by decide +kernel
theorem dX1_calls_16 : decode cX1_calls 16 = .ok (.aload_n 0, 1) := by decide +kernel
theorem dX1_calls_17 : decode cX1_calls 17 = .ok (.getfield 15, 3) := by decide +kernel
theorem dX1_calls_20 : decode cX1_calls 20 = .ok (.iload_n 1, 1) := by decide +kernel
theorem dX1_calls_21 : decode cX1_calls 21 = .ok (.iaload, 1) := by decide +kernel
theorem dX1_calls_22 : decode cX1_calls 22 = .ok (.aload_n 0, 1) := by decide +kernel
theorem dX1_calls_23 : decode cX1_calls 23 = .ok (.getfield 18, 3) := by decide +kernel
theorem dX1_calls_26 : decode cX1_calls 26 = .ok (.iload_n 1, 1) := by decide +kernel
theorem dX1_calls_27 : decode cX1_calls 27 = .ok (.iaload, 1) := by decide +kernel
theorem dX1_calls_28 : decode cX1_calls 28 = .ok (.aload_n 0, 1) := by decide +kernel
theorem dX1_calls_29 : decode cX1_calls 29 = .ok (.getfield 30, 3) := by decide +kernel
theorem dX1_calls_32 : decode cX1_calls 32 = .ok (.aload_n 0, 1) := by decide +kernel
theorem dX1_calls_33 : decode cX1_calls 33 = .ok (.getfield 24, 3) := by decide +kernel
theorem dX1_calls_36 : decode cX1_calls 36 = .ok (.iload_n 1, 1) := by decide +kernel
theorem dX1_calls_37 : decode cX1_calls 37 = .ok (.iaload, 1) := by decide +kernel
theorem dX1_calls_38 : decode cX1_calls 38 = .ok (.isub, 1) := by decide +kernel
theorem dX1_calls_39 : decode cX1_calls 39 = .ok (.aload_n 0, 1) := by decide +kernel
theorem dX1_calls_40 : decode cX1_calls 40 = .ok (.getfield 34, 3) := by decide +kernel
theorem dX1_calls_43 : decode cX1_calls 43 = .ok (.iload_n 3, 1) := by decide +kernel
theorem dX1_calls_44 : decode cX1_calls 44 = .ok (.ifCond .le 7, 3) := by decide +kernel
theorem dX1_calls_47 : decode cX1_calls 47 = .ok (.iconst 1, 1) := by decide +kernel
theorem dX1_calls_48 : decode cX1_calls 48 = .ok (.goto 4, 3) := by decide +kernel
theorem dX1_calls_51 : decode cX1_calls 51 = .ok (.iconst 0, 1) := by decide +kernel
theorem dX1_calls_52 : decode cX1_calls 52 = .ok (.invokestatic 75, 3) := by decide +kernel
theorem dX1_calls_55 : decode cX1_calls 55 = .ok (.ireturn, 1) := by decide +kernel
set_option maxRecDepth 20000 in
theorem ggX1_tires_X0_tires : GoodIn wsX1_tires wsX0_tires := goodIn_r _ [5] (by decide +kernel) (by decide +kernel)
set_option maxRecDepth 20000 in
theorem gX1_tires_X0_tires : GoodIn wsX1_tires (va_wsS RX1 79 yX0_tires wsX0_tires) := goodIn_app (goodIn_of _ (by decide +kernel)) ggX1_tires_X0_tires
theorem dX1_tires_0 : decode cX1_tires 0 = .ok (.aload_n 0, 1) := by decide +kernel
theorem dX1_tires_1 : decode cX1_tires 1 = .ok (.getfield 15, 3) := by decide +kernel
theorem dX1_tires_4 : decode cX1_tires 4 = .ok (.iload_n 1, 1) := by decide +kernel
theorem dX1_tires_5 : decode cX1_tires 5 = .ok (.iaload, 1) := by decide +kernel
theorem dX1_tires_6 : decode cX1_tires 6 = .ok (.invokestatic 79, 3) := by decide +kernel
theorem dX1_tires_9 : decode cX1_tires 9 = .ok (.ireturn, 1) := by decide +kernel
set_option maxRecDepth 20000 in
theorem ggX1_isDone_X0_needs : GoodIn wsX1_isDone wsX0_needs := goodIn_r _ [7] (by decide +kernel) (by decide +kernel)
set_option maxRecDepth 20000 in
theorem gX1_isDone_X0_needs : GoodIn wsX1_isDone (va_wsS RX1 59 yX0_needs wsX0_needs) := goodIn_app (goodIn_of _ (by decide +kernel)) ggX1_isDone_X0_needs
theorem dX1_isDone_0 : decode cX1_isDone 0 = .ok (.aload_n 0, 1) := by decide +kernel
theorem dX1_isDone_1 : decode cX1_isDone 1 = .ok (.getfield 21, 3) := by decide +kernel
theorem dX1_isDone_4 : decode cX1_isDone 4 = .ok (.iload_n 1, 1) := by decide +kernel
theorem dX1_isDone_5 : decode cX1_isDone 5 = .ok (.iaload, 1) := by decide +kernel
theorem dX1_isDone_6 : decode cX1_isDone 6 = .ok (.aload_n 0, 1) := by decide +kernel
theorem dX1_isDone_7 : decode cX1_isDone 7 = .ok (.getfield 15, 3) := by decide +kernel
theorem dX1_isDone_10 : decode cX1_isDone 10 = .ok (.iload_n 1, 1) := by decide +kernel
theorem dX1_isDone_11 : decode cX1_isDone 11 = .ok (.iaload, 1) := by decide +kernel
theorem dX1_isDone_12 : decode cX1_isDone 12 = .ok (.aload_n 0, 1) := by decide +kernel
theorem dX1_isDone_13 : decode cX1_isDone 13 = .ok (.getfield 18, 3) := by decide +kernel
theorem dX1_isDone_16 : decode cX1_isDone 16 = .ok (.iload_n 1, 1) := by decide +kernel
theorem dX1_isDone_17 : decode cX1_isDone 17 = .ok (.iaload, 1) := by decide +kernel
theorem dX1_isDone_18 : decode cX1_isDone 18 = .ok (.invokestatic 59, 3) := by decide +kernel
theorem dX1_isDone_21 : decode cX1_isDone 21 = .ok (.if_icmp .lt 7, 3) := by decide +kernel
theorem dX1_isDone_24 : decode cX1_isDone 24 = .ok (.iconst 1, 1) := by decide +kernel
theorem dX1_isDone_25 : decode cX1_isDone 25 = .ok (.goto 4, 3) := by decide +kernel
theorem dX1_isDone_28 : decode cX1_isDone 28 = .ok (.iconst 0, 1) := by decide +kernel
theorem dX1_isDone_29 : decode cX1_isDone 29 = .ok (.ireturn, 1) := by decide +kernel
set_option maxRecDepth 20000 in
theorem ggX1_undone_X1_isDone : GoodIn wsX1_undone wsX1_isDone := goodIn_r _ [6, 7, 8, 9, 10, 11, 12, 13, 14, 15, 16, 17, 18, 19, 20, 21, 22, 23] (by decide +kernel) (by decide +kernel)
set_option maxRecDepth 20000 in
theorem gX1_undone_X1_isDone : GoodIn wsX1_undone (wsV RX1 71 RX1 yX1_isDone wsX1_isDone) := goodIn_app (goodIn_of _ (by decide +kernel)) ggX1_undone_X1_isDone
theorem dX1_undone_0 : decode cX1_undone 0 = .ok (.iconst 0, 1) := by decide +kernel
theorem dX1_undone_1 : decode cX1_undone 1 = .ok (.istore_n 1, 1) := by decide +kernel
theorem dX1_undone_2 : decode cX1_undone 2 = .ok (.iconst 0, 1) := by decide +kernel
theorem dX1_undone_3 : decode cX1_undone 3 = .ok (.istore_n 2, 1) := by decide +kernel
theorem dX1_undone_4 : decode cX1_undone 4 = .ok (.iload_n 2, 1) := by decide +kernel
theorem dX1_undone_5 : decode cX1_undone 5 = .ok (.aload_n 0, 1) := by decide +kernel
theorem dX1_undone_6 : decode cX1_undone 6 = .ok (.getfield 40, 3) := by decide +kernel
theorem dX1_undone_9 : decode cX1_undone 9 = .ok (.if_icmp .ge 20, 3) := by decide +kernel
theorem dX1_undone_12 : decode cX1_undone 12 = .ok (.aload_n 0, 1) := by decide +kernel
theorem dX1_undone_13 : decode cX1_undone 13 = .ok (.iload_n 2, 1) := by decide +kernel
theorem dX1_undone_14 : decode cX1_undone 14 = .ok (.invokevirtual 71, 3) := by decide +kernel
theorem dX1_undone_17 : decode cX1_undone 17 = .ok (.ifCond .ne 6, 3) := by decide +kernel
theorem dX1_undone_20 : decode cX1_undone 20 = .ok (.iinc 1 1, 3) := by decide +kernel
theorem dX1_undone_23 : decode cX1_undone 23 = .ok (.iinc 2 1, 3) := by decide +kernel
theorem dX1_undone_26 : decode cX1_undone 26 = .ok (.goto (-22), 3) := by decide +kernel
theorem dX1_undone_29 : decode cX1_undone 29 = .ok (.iload_n 1, 1) := by decide +kernel
theorem dX1_undone_30 : decode cX1_undone 30 = .ok (.ireturn, 1) := by decide +kernel
set_option maxRecDepth 20000 in
theorem ggX1_doneSet_X1_isDone : GoodIn wsX1_doneSet wsX1_isDone := goodIn_r _ [6, 7, 8, 9, 10, 11, 12, 13, 14, 15, 16, 17, 18, 19, 20, 21, 22, 23] (by decide +kernel) (by decide +kernel)
set_option maxRecDepth 20000 in
theorem gX1_doneSet_X1_isDone : GoodIn wsX1_doneSet (wsV RX1 71 RX1 yX1_isDone wsX1_isDone) := goodIn_app (goodIn_of _ (by decide +kernel)) ggX1_doneSet_X1_isDone
theorem dX1_doneSet_0 : decode cX1_doneSet 0 = .ok (.iconst 0, 1) := by decide +kernel
theorem dX1_doneSet_1 : decode cX1_doneSet 1 = .ok (.istore_n 1, 1) := by decide +kernel
theorem dX1_doneSet_2 : decode cX1_doneSet 2 = .ok (.iconst 0, 1) := by decide +kernel
theorem dX1_doneSet_3 : decode cX1_doneSet 3 = .ok (.istore_n 2, 1) := by decide +kernel
theorem dX1_doneSet_4 : decode cX1_doneSet 4 = .ok (.iload_n 2, 1) := by decide +kernel
theorem dX1_doneSet_5 : decode cX1_doneSet 5 = .ok (.aload_n 0, 1) := by decide +kernel
theorem dX1_doneSet_6 : decode cX1_doneSet 6 = .ok (.getfield 40, 3) := by decide +kernel
theorem dX1_doneSet_9 : decode cX1_doneSet 9 = .ok (.if_icmp .ge 23, 3) := by decide +kernel
theorem dX1_doneSet_12 : decode cX1_doneSet 12 = .ok (.aload_n 0, 1) := by decide +kernel
theorem dX1_doneSet_13 : decode cX1_doneSet 13 = .ok (.iload_n 2, 1) := by decide +kernel
theorem dX1_doneSet_14 : decode cX1_doneSet 14 = .ok (.invokevirtual 71, 3) := by decide +kernel
theorem dX1_doneSet_17 : decode cX1_doneSet 17 = .ok (.ifCond .eq 9, 3) := by decide +kernel
theorem dX1_doneSet_20 : decode cX1_doneSet 20 = .ok (.iload_n 1, 1) := by decide +kernel
theorem dX1_doneSet_21 : decode cX1_doneSet 21 = .ok (.iconst 1, 1) := by decide +kernel
theorem dX1_doneSet_22 : decode cX1_doneSet 22 = .ok (.iload_n 2, 1) := by decide +kernel
theorem dX1_doneSet_23 : decode cX1_doneSet 23 = .ok (.ishl, 1) := by decide +kernel
theorem dX1_doneSet_24 : decode cX1_doneSet 24 = .ok (.ior, 1) := by decide +kernel
theorem dX1_doneSet_25 : decode cX1_doneSet 25 = .ok (.istore_n 1, 1) := by decide +kernel
theorem dX1_doneSet_26 : decode cX1_doneSet 26 = .ok (.iinc 2 1, 3) := by decide +kernel
theorem dX1_doneSet_29 : decode cX1_doneSet 29 = .ok (.goto (-25), 3) := by decide +kernel
theorem dX1_doneSet_32 : decode cX1_doneSet 32 = .ok (.iload_n 1, 1) := by decide +kernel
theorem dX1_doneSet_33 : decode cX1_doneSet 33 = .ok (.ireturn, 1) := by decide +kernel
set_option maxRecDepth 20000 in
theorem ggX1_behindhandSet_X1_isDone : GoodIn wsX1_behindhandSet wsX1_isDone := goodIn_r _ [8, 9, 10, 11, 12, 13, 14, 15, 16, 17, 18, 19, 20, 21, 22, 23, 24, 25] (by decide +kernel) (by decide +kernel)
set_option maxRecDepth 20000 in
theorem gX1_behindhandSet_X1_isDone : GoodIn wsX1_behindhandSet (wsV RX1 71 RX1 yX1_isDone wsX1_isDone) := goodIn_app (goodIn_of _ (by decide +kernel)) ggX1_behindhandSet_X1_isDone
theorem dX1_behindhandSet_0 : decode cX1_behindhandSet 0 = .ok (.iconst 0, 1) := by decide +kernel
theorem dX1_behindhandSet_1 : decode cX1_behindhandSet 1 = .ok (.istore_n 1, 1) := by decide +kernel
theorem dX1_behindhandSet_2 : decode cX1_behindhandSet 2 = .ok (.iconst 0, 1) := by decide +kernel
theorem dX1_behindhandSet_3 : decode cX1_behindhandSet 3 = .ok (.istore_n 2, 1) := by decide +kernel
theorem dX1_behindhandSet_4 : decode cX1_behindhandSet 4 = .ok (.iload_n 2, 1) := by decide +kernel
theorem dX1_behindhandSet_5 : decode cX1_behindhandSet 5 = .ok (.aload_n 0, 1) := by decide +kernel
theorem dX1_behindhandSet_6 : decode cX1_behindhandSet 6 = .ok (.getfield 40, 3) := by decide +kernel
theorem dX1_behindhandSet_9 : decode cX1_behindhandSet 9 = .ok (.if_icmp .ge 36, 3) := by decide +kernel
theorem dX1_behindhandSet_12 : decode cX1_behindhandSet 12 = .ok (.aload_n 0, 1) := by decide +kernel
theorem dX1_behindhandSet_13 : decode cX1_behindhandSet 13 = .ok (.iload_n 2, 1) := by decide +kernel
theorem dX1_behindhandSet_14 : decode cX1_behindhandSet 14 = .ok (.invokevirtual 71, 3) := by decide +kernel
theorem dX1_behindhandSet_17 : decode cX1_behindhandSet 17 = .ok (.ifCond .ne 22, 3) := by decide +kernel
theorem dX1_behindhandSet_20 : decode cX1_behindhandSet 20 = .ok (.aload_n 0, 1) := by decide +kernel
theorem dX1_behindhandSet_21 : decode cX1_behindhandSet 21 = .ok (.getfield 30, 3) := by decide +kernel
theorem dX1_behindhandSet_24 : decode cX1_behindhandSet 24 = .ok (.aload_n 0, 1) := by decide +kernel
theorem dX1_behindhandSet_25 : decode cX1_behindhandSet 25 = .ok (.getfield 24, 3) := by decide +kernel
theorem dX1_behindhandSet_28 : decode cX1_behindhandSet 28 = .ok (.iload_n 2, 1) := by decide +kernel
theorem dX1_behindhandSet_29 : decode cX1_behindhandSet 29 = .ok (.iaload, 1) := by decide +kernel
theorem dX1_behindhandSet_30 : decode cX1_behindhandSet 30 = .ok (.if_icmp .le 9, 3) := by decide +kernel
theorem dX1_behindhandSet_33 : decode cX1_behindhandSet 33 = .ok (.iload_n 1, 1) := by decide +kernel
theorem dX1_behindhandSet_34 : decode cX1_behindhandSet 34 = .ok (.iconst 1, 1) := by decide +kernel
theorem dX1_behindhandSet_35 : decode cX1_behindhandSet 35 = .ok (.iload_n 2, 1) := by decide +kernel
theorem dX1_behindhandSet_36 : decode cX1_behindhandSet 36 = .ok (.ishl, 1) := by decide +kernel
theorem dX1_behindhandSet_37 : decode cX1_behindhandSet 37 = .ok (.ior, 1) := by decide +kernel
theorem dX1_behindhandSet_38 : decode cX1_behindhandSet 38 = .ok (.istore_n 1, 1) := by decide +kernel
theorem dX1_behindhandSet_39 : decode cX1_behindhandSet 39 = .ok (.iinc 2 1, 3) := by decide +kernel
theorem dX1_behindhandSet_42 : decode cX1_behindhandSet 42 = .ok (.goto (-38), 3) := by decide +kernel
theorem dX1_behindhandSet_45 : decode cX1_behindhandSet 45 = .ok (.iload_n 1, 1) := by decide +kernel
theorem dX1_behindhandSet_46 : decode cX1_behindhandSet 46 = .ok (.ireturn, 1) := by decide +kernel
set_option maxRecDepth 20000 in
theorem ggX1_loudest_X1_undone : GoodIn wsX1_loudest wsX1_undone := goodIn_r _ [7, 1, 8, 9, 10, 6, 11, 12, 13, 14, 15, 16, 17, 18, 33, 34, 35, 36, 37, 38, 39, 40, 41, 42] (by decide +kernel) (by decide +kernel)
set_option maxRecDepth 20000 in
theorem gX1_loudest_X1_undone : GoodIn wsX1_loudest (wsV RX1 83 RX1 yX1_undone wsX1_undone) := goodIn_app (goodIn_of _ (by decide +kernel)) ggX1_loudest_X1_undone
set_option maxRecDepth 20000 in
theorem ggX1_loudest_X1_isDone : GoodIn wsX1_loudest wsX1_isDone := goodIn_r _ [11, 12, 13, 14, 15, 16, 17, 18, 33, 34, 35, 36, 37, 38, 39, 40, 41, 42] (by decide +kernel) (by decide +kernel)
set_option maxRecDepth 20000 in
theorem gX1_loudest_X1_isDone : GoodIn wsX1_loudest (wsV RX1 71 RX1 yX1_isDone wsX1_isDone) := goodIn_app (goodIn_of _ (by decide +kernel)) ggX1_loudest_X1_isDone
set_option maxRecDepth 20000 in
theorem ggX1_loudest_X1_calls : GoodIn wsX1_loudest wsX1_calls := goodIn_r _ [22, 13, 14, 23, 24, 25, 8, 9, 10, 6, 11, 12, 15, 16, 17, 18, 26, 27, 28, 29, 30, 31, 32, 33, 34, 35, 36, 37, 38, 39, 40, 41, 42] (by decide +kernel) (by decide +kernel)
set_option maxRecDepth 20000 in
theorem gX1_loudest_X1_calls : GoodIn wsX1_loudest (wsV RX1 87 RX1 yX1_calls wsX1_calls) := goodIn_app (goodIn_of _ (by decide +kernel)) ggX1_loudest_X1_calls
theorem dX1_loudest_0 : decode cX1_loudest 0 = .ok (.aload_n 0, 1) := by decide +kernel
theorem dX1_loudest_1 : decode cX1_loudest 1 = .ok (.invokevirtual 83, 3) := by decide +kernel
theorem dX1_loudest_4 : decode cX1_loudest 4 = .ok (.istore_n 1, 1) := by decide +kernel
theorem dX1_loudest_5 : decode cX1_loudest 5 = .ok (.iconst (-1), 1) := by decide +kernel
theorem dX1_loudest_6 : decode cX1_loudest 6 = .ok (.istore_n 2, 1) := by decide +kernel
theorem dX1_loudest_7 : decode cX1_loudest 7 = .ok (.iconst 0, 1) := by decide +kernel
theorem dX1_loudest_8 : decode cX1_loudest 8 = .ok (.istore_n 3, 1) := by decide +kernel
theorem dX1_loudest_9 : decode cX1_loudest 9 = .ok (.iconst 0, 1) := by decide +kernel
theorem dX1_loudest_10 : decode cX1_loudest 10 = .ok (.istore 4, 2) := by decide +kernel
theorem dX1_loudest_12 : decode cX1_loudest 12 = .ok (.iload 4, 2) := by decide +kernel
theorem dX1_loudest_14 : decode cX1_loudest 14 = .ok (.aload_n 0, 1) := by decide +kernel
theorem dX1_loudest_15 : decode cX1_loudest 15 = .ok (.getfield 40, 3) := by decide +kernel
theorem dX1_loudest_18 : decode cX1_loudest 18 = .ok (.if_icmp .ge 49, 3) := by decide +kernel
theorem dX1_loudest_21 : decode cX1_loudest 21 = .ok (.aload_n 0, 1) := by decide +kernel
theorem dX1_loudest_22 : decode cX1_loudest 22 = .ok (.getfield 27, 3) := by decide +kernel
theorem dX1_loudest_25 : decode cX1_loudest 25 = .ok (.iload 4, 2) := by decide +kernel
theorem dX1_loudest_27 : decode cX1_loudest 27 = .ok (.iaload, 1) := by decide +kernel
theorem dX1_loudest_28 : decode cX1_loudest 28 = .ok (.ifCond .ne 33, 3) := by decide +kernel
theorem dX1_loudest_31 : decode cX1_loudest 31 = .ok (.aload_n 0, 1) := by decide +kernel
theorem dX1_loudest_32 : decode cX1_loudest 32 = .ok (.iload 4, 2) := by decide +kernel
theorem dX1_loudest_34 : decode cX1_loudest 34 = .ok (.invokevirtual 71, 3) := by decide +kernel
theorem dX1_loudest_37 : decode cX1_loudest 37 = .ok (.ifCond .ne 24, 3) := by decide +kernel
theorem dX1_loudest_40 : decode cX1_loudest 40 = .ok (.aload_n 0, 1) := by decide +kernel
theorem dX1_loudest_41 : decode cX1_loudest 41 = .ok (.iload 4, 2) := by decide +kernel
theorem dX1_loudest_43 : decode cX1_loudest 43 = .ok (.iload_n 1, 1) := by decide +kernel
theorem dX1_loudest_44 : decode cX1_loudest 44 = .ok (.invokevirtual 87, 3) := by decide +kernel
theorem dX1_loudest_47 : decode cX1_loudest 47 = .ok (.istore 5, 2) := by decide +kernel
theorem dX1_loudest_49 : decode cX1_loudest 49 = .ok (.iload 5, 2) := by decide +kernel
theorem dX1_loudest_51 : decode cX1_loudest 51 = .ok (.iload_n 3, 1) := by decide +kernel
theorem dX1_loudest_52 : decode cX1_loudest 52 = .ok (.if_icmp .le 9, 3) := by decide +kernel
theorem dX1_loudest_55 : decode cX1_loudest 55 = .ok (.iload 5, 2) := by decide +kernel
theorem dX1_loudest_57 : decode cX1_loudest 57 = .ok (.istore_n 3, 1) := by decide +kernel
theorem dX1_loudest_58 : decode cX1_loudest 58 = .ok (.iload 4, 2) := by decide +kernel
theorem dX1_loudest_60 : decode cX1_loudest 60 = .ok (.istore_n 2, 1) := by decide +kernel
theorem dX1_loudest_61 : decode cX1_loudest 61 = .ok (.iinc 4 1, 3) := by decide +kernel
theorem dX1_loudest_64 : decode cX1_loudest 64 = .ok (.goto (-52), 3) := by decide +kernel
theorem dX1_loudest_67 : decode cX1_loudest 67 = .ok (.iload_n 2, 1) := by decide +kernel
theorem dX1_loudest_68 : decode cX1_loudest 68 = .ok (.ireturn, 1) := by decide +kernel
set_option maxRecDepth 20000 in
theorem ggX1_passDays_X1_passDay : GoodIn wsX1_passDays wsX1_passDay := goodIn_r _ [5, 6, 7, 8, 9, 10, 11, 12, 13, 14, 15, 16, 4, 17, 18, 19, 20, 21, 22, 23, 24, 25, 26, 27, 28, 29, 30, 31, 32, 33, 34, 35, 36, 37, 38, 39, 40, 41, 42, 43, 44, 45, 46, 47, 48, 49, 50, 51, 52, 53, 54, 55, 56, 57, 58, 59, 60, 61, 62, 63, 64, 65, 66, 67, 68, 69, 70, 71, 72, 73, 74, 75, 76, 77, 78, 79, 80, 81, 82] (by decide +kernel) (by decide +kernel)
set_option maxRecDepth 20000 in
theorem gX1_passDays_X1_passDay : GoodIn wsX1_passDays (wsV RX1 89 RX1 yX1_passDay wsX1_passDay) := goodIn_app (goodIn_of _ (by decide +kernel)) ggX1_passDays_X1_passDay
theorem dX1_passDays_0 : decode cX1_passDays 0 = .ok (.iconst 0, 1) := by decide +kernel
theorem dX1_passDays_1 : decode cX1_passDays 1 = .ok (.istore_n 2, 1) := by decide +kernel
theorem dX1_passDays_2 : decode cX1_passDays 2 = .ok (.iload_n 2, 1) := by decide +kernel
theorem dX1_passDays_3 : decode cX1_passDays 3 = .ok (.iload_n 1, 1) := by decide +kernel
theorem dX1_passDays_4 : decode cX1_passDays 4 = .ok (.if_icmp .ge 14, 3) := by decide +kernel
theorem dX1_passDays_7 : decode cX1_passDays 7 = .ok (.aload_n 0, 1) := by decide +kernel
theorem dX1_passDays_8 : decode cX1_passDays 8 = .ok (.invokevirtual 89, 3) := by decide +kernel
theorem dX1_passDays_11 : decode cX1_passDays 11 = .ok (.pop, 1) := by decide +kernel
theorem dX1_passDays_12 : decode cX1_passDays 12 = .ok (.iinc 2 1, 3) := by decide +kernel
theorem dX1_passDays_15 : decode cX1_passDays 15 = .ok (.goto (-13), 3) := by decide +kernel
theorem dX1_passDays_18 : decode cX1_passDays 18 = .ok (.return_, 1) := by decide +kernel
set_option maxRecDepth 20000 in
theorem ggX1_passDay_X1_loudest : GoodIn wsX1_passDay wsX1_loudest := goodIn_r _ [13, 6, 7, 14, 15, 16, 12, 17, 18, 19, 20, 21, 22, 23, 24, 25, 26, 27, 28, 29, 30, 31, 32, 8, 33, 1, 34, 35, 36, 37, 3, 4, 5, 69, 70, 71, 72, 73, 74, 75, 76, 77, 78] (by decide +kernel) (by decide +kernel)
set_option maxRecDepth 20000 in
theorem gX1_passDay_X1_loudest : GoodIn wsX1_passDay (wsV RX1 92 RX1 yX1_loudest wsX1_loudest) := goodIn_app (goodIn_of _ (by decide +kernel)) ggX1_passDay_X1_loudest
set_option maxRecDepth 20000 in
theorem ggX1_passDay_X1_play : GoodIn wsX1_passDay wsX1_play := goodIn_r _ [41, 22, 42, 43, 4, 44, 1, 2, 3, 5, 8, 33, 45, 46, 47, 48, 12, 49, 23, 50, 51, 52, 53, 54, 55, 56, 57, 58, 59, 60, 27, 61, 37, 62, 63, 64, 65, 66, 67, 68, 18, 19, 20, 21, 24, 25, 26, 28, 69, 70, 71, 72, 73, 74, 75, 76, 77, 78] (by decide +kernel) (by decide +kernel)
set_option maxRecDepth 20000 in
theorem gX1_passDay_X1_play : GoodIn wsX1_passDay (wsV RX1 95 RX1 yX1_play wsX1_play) := goodIn_app (goodIn_of _ (by decide +kernel)) ggX1_passDay_X1_play
set_option maxRecDepth 20000 in
theorem ggX1_passDay_X1_isHoliday : GoodIn wsX1_passDay wsX1_isHoliday := goodIn_r _ [53, 54, 8, 55, 56, 57, 58, 69, 70, 71, 72, 73, 74, 75, 76, 77, 78] (by decide +kernel) (by decide +kernel)
set_option maxRecDepth 20000 in
theorem gX1_passDay_X1_isHoliday : GoodIn wsX1_passDay (wsV RX1 64 RX1 yX1_isHoliday wsX1_isHoliday) := goodIn_app (goodIn_of _ (by decide +kernel)) ggX1_passDay_X1_isHoliday
theorem dX1_passDay_0 : decode cX1_passDay 0 = .ok (.aload_n 0, 1) := by decide +kernel
theorem dX1_passDay_1 : decode cX1_passDay 1 = .ok (.invokevirtual 92, 3) := by decide +kernel
theorem dX1_passDay_4 : decode cX1_passDay 4 = .ok (.istore_n 1, 1) := by decide +kernel
theorem dX1_passDay_5 : decode cX1_passDay 5 = .ok (.iload_n 1, 1) := by decide +kernel
theorem dX1_passDay_6 : decode cX1_passDay 6 = .ok (.ifCond .lt 11, 3) := by decide +kernel
theorem dX1_passDay_9 : decode cX1_passDay 9 = .ok (.aload_n 0, 1) := by decide +kernel
theorem dX1_passDay_10 : decode cX1_passDay 10 = .ok (.iload_n 1, 1) := by decide +kernel
theorem dX1_passDay_11 : decode cX1_passDay 11 = .ok (.invokevirtual 95, 3) := by decide +kernel
theorem dX1_passDay_14 : decode cX1_passDay 14 = .ok (.goto 18, 3) := by decide +kernel
theorem dX1_passDay_17 : decode cX1_passDay 17 = .ok (.aload_n 0, 1) := by decide +kernel
theorem dX1_passDay_18 : decode cX1_passDay 18 = .ok (.iconst 0, 1) := by decide +kernel
theorem dX1_passDay_19 : decode cX1_passDay 19 = .ok (.aload_n 0, 1) := by decide +kernel
theorem dX1_passDay_20 : decode cX1_passDay 20 = .ok (.getfield 34, 3) := by decide +kernel
theorem dX1_passDay_23 : decode cX1_passDay 23 = .ok (.bipush 10, 2) := by decide +kernel
theorem dX1_passDay_25 : decode cX1_passDay 25 = .ok (.isub, 1) := by decide +kernel
theorem dX1_passDay_26 : decode cX1_passDay 26 = .ok (.invokestatic 99, 3) := by decide +kernel
theorem dX1_passDay_29 : decode cX1_passDay 29 = .ok (.putfield 34, 3) := by decide +kernel
theorem dX1_passDay_32 : decode cX1_passDay 32 = .ok (.aload_n 0, 1) := by decide +kernel
theorem dX1_passDay_33 : decode cX1_passDay 33 = .ok (.invokevirtual 64, 3) := by decide +kernel
theorem dX1_passDay_36 : decode cX1_passDay 36 = .ok (.ifCond .eq 17, 3) := by decide +kernel
theorem dX1_passDay_39 : decode cX1_passDay 39 = .ok (.aload_n 0, 1) := by decide +kernel
theorem dX1_passDay_40 : decode cX1_passDay 40 = .ok (.iconst 0, 1) := by decide +kernel
theorem dX1_passDay_41 : decode cX1_passDay 41 = .ok (.aload_n 0, 1) := by decide +kernel
theorem dX1_passDay_42 : decode cX1_passDay 42 = .ok (.getfield 34, 3) := by decide +kernel
theorem dX1_passDay_45 : decode cX1_passDay 45 = .ok (.iconst 4, 1) := by decide +kernel
theorem dX1_passDay_46 : decode cX1_passDay 46 = .ok (.isub, 1) := by decide +kernel
theorem dX1_passDay_47 : decode cX1_passDay 47 = .ok (.invokestatic 99, 3) := by decide +kernel
theorem dX1_passDay_50 : decode cX1_passDay 50 = .ok (.putfield 34, 3) := by decide +kernel
theorem dX1_passDay_53 : decode cX1_passDay 53 = .ok (.iconst 0, 1) := by decide +kernel
theorem dX1_passDay_54 : decode cX1_passDay 54 = .ok (.istore_n 2, 1) := by decide +kernel
theorem dX1_passDay_55 : decode cX1_passDay 55 = .ok (.iload_n 2, 1) := by decide +kernel
theorem dX1_passDay_56 : decode cX1_passDay 56 = .ok (.aload_n 0, 1) := by decide +kernel
theorem dX1_passDay_57 : decode cX1_passDay 57 = .ok (.getfield 40, 3) := by decide +kernel
theorem dX1_passDay_60 : decode cX1_passDay 60 = .ok (.if_icmp .ge 27, 3) := by decide +kernel
theorem dX1_passDay_63 : decode cX1_passDay 63 = .ok (.aload_n 0, 1) := by decide +kernel
theorem dX1_passDay_64 : decode cX1_passDay 64 = .ok (.getfield 27, 3) := by decide +kernel
theorem dX1_passDay_67 : decode cX1_passDay 67 = .ok (.iload_n 2, 1) := by decide +kernel
theorem dX1_passDay_68 : decode cX1_passDay 68 = .ok (.iconst 0, 1) := by decide +kernel
theorem dX1_passDay_69 : decode cX1_passDay 69 = .ok (.aload_n 0, 1) := by decide +kernel
theorem dX1_passDay_70 : decode cX1_passDay 70 = .ok (.getfield 27, 3) := by decide +kernel
theorem dX1_passDay_73 : decode cX1_passDay 73 = .ok (.iload_n 2, 1) := by decide +kernel
theorem dX1_passDay_74 : decode cX1_passDay 74 = .ok (.iaload, 1) := by decide +kernel
theorem dX1_passDay_75 : decode cX1_passDay 75 = .ok (.iconst 1, 1) := by decide +kernel
theorem dX1_passDay_76 : decode cX1_passDay 76 = .ok (.isub, 1) := by decide +kernel
theorem dX1_passDay_77 : decode cX1_passDay 77 = .ok (.invokestatic 99, 3) := by decide +kernel
theorem dX1_passDay_80 : decode cX1_passDay 80 = .ok (.iastore, 1) := by decide +kernel
theorem dX1_passDay_81 : decode cX1_passDay 81 = .ok (.iinc 2 1, 3) := by decide +kernel
theorem dX1_passDay_84 : decode cX1_passDay 84 = .ok (.goto (-29), 3) := by decide +kernel
theorem dX1_passDay_87 : decode cX1_passDay 87 = .ok (.aload_n 0, 1) := by decide +kernel
theorem dX1_passDay_88 : decode cX1_passDay 88 = .ok (.dup, 1) := by decide +kernel
theorem dX1_passDay_89 : decode cX1_passDay 89 = .ok (.getfield 30, 3) := by decide +kernel
theorem dX1_passDay_92 : decode cX1_passDay 92 = .ok (.iconst 1, 1) := by decide +kernel
theorem dX1_passDay_93 : decode cX1_passDay 93 = .ok (.iadd, 1) := by decide +kernel
theorem dX1_passDay_94 : decode cX1_passDay 94 = .ok (.putfield 30, 3) := by decide +kernel
theorem dX1_passDay_97 : decode cX1_passDay 97 = .ok (.iload_n 1, 1) := by decide +kernel
theorem dX1_passDay_98 : decode cX1_passDay 98 = .ok (.ireturn, 1) := by decide +kernel
set_option maxRecDepth 20000 in
theorem ggX1_play_X1_gives : GoodIn wsX1_play wsX1_gives := goodIn_r _ [17, 18, 6, 19, 20, 21, 16, 22, 23, 10, 24, 25, 26, 27, 28, 29, 30, 31, 32, 8, 4, 9, 48, 49, 50, 51, 52, 53, 54, 55, 56, 57] (by decide +kernel) (by decide +kernel)
set_option maxRecDepth 20000 in
theorem gX1_play_X1_gives : GoodIn wsX1_play (wsV RX1 102 RX1 yX1_gives wsX1_gives) := goodIn_app (goodIn_of _ (by decide +kernel)) ggX1_play_X1_gives
set_option maxRecDepth 20000 in
theorem ggX1_play_X1_tires : GoodIn wsX1_play wsX1_tires := goodIn_r _ [36, 18, 37, 38, 30, 39, 48, 49, 50, 51, 52, 53, 54, 55, 56, 57] (by decide +kernel) (by decide +kernel)
set_option maxRecDepth 20000 in
theorem gX1_play_X1_tires : GoodIn wsX1_play (wsV RX1 107 RX1 yX1_tires wsX1_tires) := goodIn_app (goodIn_of _ (by decide +kernel)) ggX1_play_X1_tires
set_option maxRecDepth 20000 in
theorem ggX1_play_X1_isDone : GoodIn wsX1_play wsX1_isDone := goodIn_r _ [43, 1, 18, 44, 45, 46, 30, 47, 48, 49, 50, 51, 52, 53, 54, 55, 56, 57] (by decide +kernel) (by decide +kernel)
set_option maxRecDepth 20000 in
theorem gX1_play_X1_isDone : GoodIn wsX1_play (wsV RX1 71 RX1 yX1_isDone wsX1_isDone) := goodIn_app (goodIn_of _ (by decide +kernel)) ggX1_play_X1_isDone
theorem dX1_play_0 : decode cX1_play 0 = .ok (.aload_n 0, 1) := by decide +kernel
theorem dX1_play_1 : decode cX1_play 1 = .ok (.getfield 21, 3) := by decide +kernel
theorem dX1_play_4 : decode cX1_play 4 = .ok (.iload_n 1, 1) := by decide +kernel
theorem dX1_play_5 : decode cX1_play 5 = .ok (.sipush 9999, 3) := by decide +kernel
theorem dX1_play_8 : decode cX1_play 8 = .ok (.aload_n 0, 1) := by decide +kernel
theorem dX1_play_9 : decode cX1_play 9 = .ok (.getfield 21, 3) := by decide +kernel
theorem dX1_play_12 : decode cX1_play 12 = .ok (.iload_n 1, 1) := by decide +kernel
theorem dX1_play_13 : decode cX1_play 13 = .ok (.iaload, 1) := by decide +kernel
theorem dX1_play_14 : decode cX1_play 14 = .ok (.aload_n 0, 1) := by decide +kernel
theorem dX1_play_15 : decode cX1_play 15 = .ok (.iload_n 1, 1) := by decide +kernel
theorem dX1_play_16 : decode cX1_play 16 = .ok (.invokevirtual 102, 3) := by decide +kernel
theorem dX1_play_19 : decode cX1_play 19 = .ok (.iadd, 1) := by decide +kernel
theorem dX1_play_20 : decode cX1_play 20 = .ok (.invokestatic 104, 3) := by decide +kernel
theorem dX1_play_23 : decode cX1_play 23 = .ok (.iastore, 1) := by decide +kernel
theorem dX1_play_24 : decode cX1_play 24 = .ok (.aload_n 0, 1) := by decide +kernel
theorem dX1_play_25 : decode cX1_play 25 = .ok (.iconst 0, 1) := by decide +kernel
theorem dX1_play_26 : decode cX1_play 26 = .ok (.bipush 99, 2) := by decide +kernel
theorem dX1_play_28 : decode cX1_play 28 = .ok (.aload_n 0, 1) := by decide +kernel
theorem dX1_play_29 : decode cX1_play 29 = .ok (.getfield 34, 3) := by decide +kernel
theorem dX1_play_32 : decode cX1_play 32 = .ok (.aload_n 0, 1) := by decide +kernel
theorem dX1_play_33 : decode cX1_play 33 = .ok (.iload_n 1, 1) := by decide +kernel
theorem dX1_play_34 : decode cX1_play 34 = .ok (.invokevirtual 107, 3) := by decide +kernel
theorem dX1_play_37 : decode cX1_play 37 = .ok (.iadd, 1) := by decide +kernel
theorem dX1_play_38 : decode cX1_play 38 = .ok (.invokestatic 104, 3) := by decide +kernel
theorem dX1_play_41 : decode cX1_play 41 = .ok (.invokestatic 99, 3) := by decide +kernel
theorem dX1_play_44 : decode cX1_play 44 = .ok (.putfield 34, 3) := by decide +kernel
theorem dX1_play_47 : decode cX1_play 47 = .ok (.aload_n 0, 1) := by decide +kernel
theorem dX1_play_48 : decode cX1_play 48 = .ok (.iload_n 1, 1) := by decide +kernel
theorem dX1_play_49 : decode cX1_play 49 = .ok (.invokevirtual 71, 3) := by decide +kernel
theorem dX1_play_52 : decode cX1_play 52 = .ok (.ifCond .eq 32, 3) := by decide +kernel
theorem dX1_play_55 : decode cX1_play 55 = .ok (.aload_n 0, 1) := by decide +kernel
theorem dX1_play_56 : decode cX1_play 56 = .ok (.getfield 30, 3) := by decide +kernel
theorem dX1_play_59 : decode cX1_play 59 = .ok (.aload_n 0, 1) := by decide +kernel
theorem dX1_play_60 : decode cX1_play 60 = .ok (.getfield 24, 3) := by decide +kernel
theorem dX1_play_63 : decode cX1_play 63 = .ok (.iload_n 1, 1) := by decide +kernel
theorem dX1_play_64 : decode cX1_play 64 = .ok (.iaload, 1) := by decide +kernel
theorem dX1_play_65 : decode cX1_play 65 = .ok (.if_icmp .le 19, 3) := by decide +kernel
theorem dX1_play_68 : decode cX1_play 68 = .ok (.aload_n 0, 1) := by decide +kernel
theorem dX1_play_69 : decode cX1_play 69 = .ok (.sipush 9999, 3) := by decide +kernel
theorem dX1_play_72 : decode cX1_play 72 = .ok (.aload_n 0, 1) := by decide +kernel
theorem dX1_play_73 : decode cX1_play 73 = .ok (.getfield 37, 3) := by decide +kernel
theorem dX1_play_76 : decode cX1_play 76 = .ok (.iconst 1, 1) := by decide +kernel
theorem dX1_play_77 : decode cX1_play 77 = .ok (.iadd, 1) := by decide +kernel
theorem dX1_play_78 : decode cX1_play 78 = .ok (.invokestatic 104, 3) := by decide +kernel
theorem dX1_play_81 : decode cX1_play 81 = .ok (.putfield 37, 3) := by decide +kernel
theorem dX1_play_84 : decode cX1_play 84 = .ok (.return_, 1) := by decide +kernel
set_option maxRecDepth 20000 in
theorem ggX1_daysTillDone_X1_isDone : GoodIn wsX1_daysTillDone wsX1_isDone := goodIn_r _ [6, 7, 8, 9, 10, 11, 12, 13, 74, 75, 76, 77, 78, 79, 80, 81, 82, 83] (by decide +kernel) (by decide +kernel)
set_option maxRecDepth 20000 in
theorem gX1_daysTillDone_X1_isDone : GoodIn wsX1_daysTillDone (wsV RX1 71 RX1 yX1_isDone wsX1_isDone) := goodIn_app (goodIn_of _ (by decide +kernel)) ggX1_daysTillDone_X1_isDone
set_option maxRecDepth 20000 in
theorem ggX1_daysTillDone_X1_passDay : GoodIn wsX1_daysTillDone wsX1_passDay := goodIn_r _ [17, 18, 19, 20, 21, 22, 23, 24, 25, 26, 27, 28, 5, 29, 30, 31, 32, 33, 2, 3, 4, 6, 7, 8, 9, 10, 11, 12, 13, 34, 35, 36, 37, 38, 39, 40, 41, 42, 43, 44, 45, 46, 47, 48, 49, 50, 51, 52, 53, 54, 55, 56, 57, 58, 59, 60, 61, 62, 63, 64, 65, 66, 67, 68, 69, 70, 71, 72, 73, 74, 75, 76, 77, 78, 79, 80, 81, 82, 83] (by decide +kernel) (by decide +kernel)
set_option maxRecDepth 20000 in
theorem gX1_daysTillDone_X1_passDay : GoodIn wsX1_daysTillDone (wsV RX1 89 RX1 yX1_passDay wsX1_passDay) := goodIn_app (goodIn_of _ (by decide +kernel)) ggX1_daysTillDone_X1_passDay
theorem dX1_daysTillDone_0 : decode cX1_daysTillDone 0 = .ok (.iconst 0, 1) := by decide +kernel
theorem dX1_daysTillDone_1 : decode cX1_daysTillDone 1 = .ok (.istore_n 3, 1) := by decide +kernel
theorem dX1_daysTillDone_2 : decode cX1_daysTillDone 2 = .ok (.iload_n 3, 1) := by decide +kernel
theorem dX1_daysTillDone_3 : decode cX1_daysTillDone 3 = .ok (.iload_n 2, 1) := by decide +kernel
theorem dX1_daysTillDone_4 : decode cX1_daysTillDone 4 = .ok (.if_icmp .ge 24, 3) := by decide +kernel
theorem dX1_daysTillDone_7 : decode cX1_daysTillDone 7 = .ok (.aload_n 0, 1) := by decide +kernel
theorem dX1_daysTillDone_8 : decode cX1_daysTillDone 8 = .ok (.iload_n 1, 1) := by decide +kernel
theorem dX1_daysTillDone_9 : decode cX1_daysTillDone 9 = .ok (.invokevirtual 71, 3) := by decide +kernel
theorem dX1_daysTillDone_12 : decode cX1_daysTillDone 12 = .ok (.ifCond .eq 5, 3) := by decide +kernel
theorem dX1_daysTillDone_15 : decode cX1_daysTillDone 15 = .ok (.iload_n 3, 1) := by decide +kernel
theorem dX1_daysTillDone_16 : decode cX1_daysTillDone 16 = .ok (.ireturn, 1) := by decide +kernel
theorem dX1_daysTillDone_17 : decode cX1_daysTillDone 17 = .ok (.aload_n 0, 1) := by decide +kernel
theorem dX1_daysTillDone_18 : decode cX1_daysTillDone 18 = .ok (.invokevirtual 89, 3) := by decide +kernel
theorem dX1_daysTillDone_21 : decode cX1_daysTillDone 21 = .ok (.pop, 1) := by decide +kernel
theorem dX1_daysTillDone_22 : decode cX1_daysTillDone 22 = .ok (.iinc 3 1, 3) := by decide +kernel
theorem dX1_daysTillDone_25 : decode cX1_daysTillDone 25 = .ok (.goto (-23), 3) := by decide +kernel
theorem dX1_daysTillDone_28 : decode cX1_daysTillDone 28 = .ok (.aload_n 0, 1) := by decide +kernel
theorem dX1_daysTillDone_29 : decode cX1_daysTillDone 29 = .ok (.iload_n 1, 1) := by decide +kernel
theorem dX1_daysTillDone_30 : decode cX1_daysTillDone 30 = .ok (.invokevirtual 71, 3) := by decide +kernel
theorem dX1_daysTillDone_33 : decode cX1_daysTillDone 33 = .ok (.ifCond .eq 7, 3) := by decide +kernel
theorem dX1_daysTillDone_36 : decode cX1_daysTillDone 36 = .ok (.iload_n 2, 1) := by decide +kernel
theorem dX1_daysTillDone_37 : decode cX1_daysTillDone 37 = .ok (.goto 5, 3) := by decide +kernel
theorem dX1_daysTillDone_40 : decode cX1_daysTillDone 40 = .ok (.ldc 108, 2) := by decide +kernel
theorem dX1_daysTillDone_42 : decode cX1_daysTillDone 42 = .ok (.ireturn, 1) := by decide +kernel
set_option maxRecDepth 20000 in
theorem ggX1_daysTillAllDone_X1_undone : GoodIn wsX1_daysTillAllDone wsX1_undone := goodIn_r _ [6, 7, 8, 9, 10, 5, 11, 12, 13, 14, 15, 16, 17, 18, 74, 75, 76, 77, 78, 79, 80, 81, 82, 83] (by decide +kernel) (by decide +kernel)
set_option maxRecDepth 20000 in
theorem gX1_daysTillAllDone_X1_undone : GoodIn wsX1_daysTillAllDone (wsV RX1 83 RX1 yX1_undone wsX1_undone) := goodIn_app (goodIn_of _ (by decide +kernel)) ggX1_daysTillAllDone_X1_undone
set_option maxRecDepth 20000 in
theorem ggX1_daysTillAllDone_X1_passDay : GoodIn wsX1_daysTillAllDone wsX1_passDay := goodIn_r _ [22, 23, 24, 25, 26, 27, 7, 28, 29, 30, 31, 32, 5, 33, 2, 3, 4, 6, 8, 9, 10, 11, 12, 13, 14, 15, 16, 17, 18, 34, 35, 36, 37, 38, 39, 40, 41, 42, 43, 44, 45, 46, 47, 48, 49, 50, 51, 52, 53, 54, 55, 56, 57, 58, 59, 60, 61, 62, 63, 64, 65, 66, 67, 68, 69, 70, 71, 72, 73, 74, 75, 76, 77, 78, 79, 80, 81, 82, 83] (by decide +kernel) (by decide +kernel)
set_option maxRecDepth 20000 in
theorem gX1_daysTillAllDone_X1_passDay : GoodIn wsX1_daysTillAllDone (wsV RX1 89 RX1 yX1_passDay wsX1_passDay) := goodIn_app (goodIn_of _ (by decide +kernel)) ggX1_daysTillAllDone_X1_passDay
theorem dX1_daysTillAllDone_0 : decode cX1_daysTillAllDone 0 = .ok (.iconst 0, 1) := by decide +kernel
theorem dX1_daysTillAllDone_1 : decode cX1_daysTillAllDone 1 = .ok (.istore_n 2, 1) := by decide +kernel
theorem dX1_daysTillAllDone_2 : decode cX1_daysTillAllDone 2 = .ok (.iload_n 2, 1) := by decide +kernel
theorem dX1_daysTillAllDone_3 : decode cX1_daysTillAllDone 3 = .ok (.iload_n 1, 1) := by decide +kernel
theorem dX1_daysTillAllDone_4 : decode cX1_daysTillAllDone 4 = .ok (.if_icmp .ge 23, 3) := by decide +kernel
theorem dX1_daysTillAllDone_7 : decode cX1_daysTillAllDone 7 = .ok (.aload_n 0, 1) := by decide +kernel
theorem dX1_daysTillAllDone_8 : decode cX1_daysTillAllDone 8 = .ok (.invokevirtual 83, 3) := by decide +kernel
theorem dX1_daysTillAllDone_11 : decode cX1_daysTillAllDone 11 = .ok (.ifCond .ne 5, 3) := by decide +kernel
theorem dX1_daysTillAllDone_14 : decode cX1_daysTillAllDone 14 = .ok (.iload_n 2, 1) := by decide +kernel
theorem dX1_daysTillAllDone_15 : decode cX1_daysTillAllDone 15 = .ok (.ireturn, 1) := by decide +kernel
theorem dX1_daysTillAllDone_16 : decode cX1_daysTillAllDone 16 = .ok (.aload_n 0, 1) := by decide +kernel
theorem dX1_daysTillAllDone_17 : decode cX1_daysTillAllDone 17 = .ok (.invokevirtual 89, 3) := by decide +kernel
theorem dX1_daysTillAllDone_20 : decode cX1_daysTillAllDone 20 = .ok (.pop, 1) := by decide +kernel
theorem dX1_daysTillAllDone_21 : decode cX1_daysTillAllDone 21 = .ok (.iinc 2 1, 3) := by decide +kernel
theorem dX1_daysTillAllDone_24 : decode cX1_daysTillAllDone 24 = .ok (.goto (-22), 3) := by decide +kernel
theorem dX1_daysTillAllDone_27 : decode cX1_daysTillAllDone 27 = .ok (.aload_n 0, 1) := by decide +kernel
theorem dX1_daysTillAllDone_28 : decode cX1_daysTillAllDone 28 = .ok (.invokevirtual 83, 3) := by decide +kernel
theorem dX1_daysTillAllDone_31 : decode cX1_daysTillAllDone 31 = .ok (.ifCond .ne 7, 3) := by decide +kernel
theorem dX1_daysTillAllDone_34 : decode cX1_daysTillAllDone 34 = .ok (.iload_n 1, 1) := by decide +kernel
theorem dX1_daysTillAllDone_35 : decode cX1_daysTillAllDone 35 = .ok (.goto 5, 3) := by decide +kernel
theorem dX1_daysTillAllDone_38 : decode cX1_daysTillAllDone 38 = .ok (.ldc 108, 2) := by decide +kernel
theorem dX1_daysTillAllDone_40 : decode cX1_daysTillAllDone 40 = .ok (.ireturn, 1) := by decide +kernel
set_option maxRecDepth 20000 in
theorem ggX1_daysTillPlayed_X1_passDay : GoodIn wsX1_daysTillPlayed wsX1_passDay := goodIn_r _ [6, 7, 8, 9, 10, 11, 12, 13, 14, 15, 16, 17, 5, 18, 19, 20, 21, 22, 23, 24, 25, 26, 27, 28, 29, 30, 31, 32, 33, 34, 35, 36, 37, 38, 39, 40, 41, 42, 43, 44, 45, 46, 47, 48, 49, 50, 51, 52, 53, 54, 55, 56, 57, 58, 59, 60, 61, 62, 63, 64, 65, 66, 67, 68, 69, 70, 71, 72, 73, 74, 75, 76, 77, 78, 79, 80, 81, 82, 83] (by decide +kernel) (by decide +kernel)
set_option maxRecDepth 20000 in
theorem gX1_daysTillPlayed_X1_passDay : GoodIn wsX1_daysTillPlayed (wsV RX1 89 RX1 yX1_passDay wsX1_passDay) := goodIn_app (goodIn_of _ (by decide +kernel)) ggX1_daysTillPlayed_X1_passDay
theorem dX1_daysTillPlayed_0 : decode cX1_daysTillPlayed 0 = .ok (.iconst 1, 1) := by decide +kernel
theorem dX1_daysTillPlayed_1 : decode cX1_daysTillPlayed 1 = .ok (.istore_n 3, 1) := by decide +kernel
theorem dX1_daysTillPlayed_2 : decode cX1_daysTillPlayed 2 = .ok (.iload_n 3, 1) := by decide +kernel
theorem dX1_daysTillPlayed_3 : decode cX1_daysTillPlayed 3 = .ok (.iload_n 2, 1) := by decide +kernel
theorem dX1_daysTillPlayed_4 : decode cX1_daysTillPlayed 4 = .ok (.if_icmp .gt 19, 3) := by decide +kernel
theorem dX1_daysTillPlayed_7 : decode cX1_daysTillPlayed 7 = .ok (.aload_n 0, 1) := by decide +kernel
theorem dX1_daysTillPlayed_8 : decode cX1_daysTillPlayed 8 = .ok (.invokevirtual 89, 3) := by decide +kernel
theorem dX1_daysTillPlayed_11 : decode cX1_daysTillPlayed 11 = .ok (.iload_n 1, 1) := by decide +kernel
theorem dX1_daysTillPlayed_12 : decode cX1_daysTillPlayed 12 = .ok (.if_icmp .ne 5, 3) := by decide +kernel
theorem dX1_daysTillPlayed_15 : decode cX1_daysTillPlayed 15 = .ok (.iload_n 3, 1) := by decide +kernel
theorem dX1_daysTillPlayed_16 : decode cX1_daysTillPlayed 16 = .ok (.ireturn, 1) := by decide +kernel
theorem dX1_daysTillPlayed_17 : decode cX1_daysTillPlayed 17 = .ok (.iinc 3 1, 3) := by decide +kernel
theorem dX1_daysTillPlayed_20 : decode cX1_daysTillPlayed 20 = .ok (.goto (-18), 3) := by decide +kernel
theorem dX1_daysTillPlayed_23 : decode cX1_daysTillPlayed 23 = .ok (.ldc 108, 2) := by decide +kernel
theorem dX1_daysTillPlayed_25 : decode cX1_daysTillPlayed 25 = .ok (.ireturn, 1) := by decide +kernel
theorem dX2_init_0 : decode cX2_init 0 = .ok (.aload_n 0, 1) := by decide +kernel
theorem dX2_init_1 : decode cX2_init 1 = .ok (.invokespecial 3, 3) := by decide +kernel
theorem dX2_init_4 : decode cX2_init 4 = .ok (.aload_n 0, 1) := by decide +kernel
theorem dX2_init_5 : decode cX2_init 5 = .ok (.aload_n 1, 1) := by decide +kernel
theorem dX2_init_6 : decode cX2_init 6 = .ok (.putfield 9, 3) := by decide +kernel
theorem dX2_init_9 : decode cX2_init 9 = .ok (.return_, 1) := by decide +kernel
set_option maxRecDepth 20000 in
theorem ggX2_tell_X2_step : GoodIn wsX2_tell wsX2_step := goodIn_r _ [8, 1, 2, 9, 10, 3, 11, 12, 13, 14, 15, 16, 17, 18, 19, 20, 21, 22, 23, 24, 7, 25, 26, 27, 28, 120, 121, 122, 123, 124, 125, 126] (by decide +kernel) (by decide +kernel)
set_option maxRecDepth 20000 in
theorem gX2_tell_X2_step : GoodIn wsX2_tell (wsV RX2 19 RX2 yX2_step wsX2_step) := goodIn_app (goodIn_of _ (by decide +kernel)) ggX2_tell_X2_step
set_option maxRecDepth 20000 in
theorem ggX2_tell_X2_tellItem : GoodIn wsX2_tell wsX2_tellItem := goodIn_r _ [32, 33, 34, 35, 36, 7, 37, 38, 39, 40, 41, 3, 1, 2, 9, 42, 43, 44, 45, 46, 47, 48, 49, 50, 51, 52, 53, 16, 17, 18, 19, 20, 21, 22, 54, 55, 56, 57, 58, 59, 60, 61, 62, 63, 64, 65, 66, 67, 68, 69, 70, 71, 72, 73, 74, 75, 76, 77, 78, 79, 80, 81, 82, 83, 84, 85, 86, 87, 88, 89, 90, 91, 92, 93, 94, 95, 96, 97, 98, 99, 100, 4, 5, 6, 8, 10, 11, 12, 13, 14, 15, 23, 24, 25, 26, 27, 28, 101, 102, 103, 104, 105, 106, 107, 108, 109, 110, 111, 112, 113, 114, 115, 116, 117, 118, 119, 127, 128, 129, 130, 131, 132, 133, 134, 135, 136, 120, 121, 122, 123, 124, 125, 126] (by decide +kernel) (by decide +kernel)
set_option maxRecDepth 20000 in
theorem gX2_tell_X2_tellItem : GoodIn wsX2_tell (wsV RX2 24 RX2 yX2_tellItem wsX2_tellItem) := goodIn_app (goodIn_of _ (by decide +kernel)) ggX2_tell_X2_tellItem
theorem dX2_tell_0 : decode cX2_tell 0 = .ok (.aload_n 0, 1) := by decide +kernel
theorem dX2_tell_1 : decode cX2_tell 1 = .ok (.iconst 0, 1) := by decide +kernel
theorem dX2_tell_2 : decode cX2_tell 2 = .ok (.putfield 15, 3) := by decide +kernel
theorem dX2_tell_5 : decode cX2_tell 5 = .ok (.aload_n 0, 1) := by decide +kernel
theorem dX2_tell_6 : decode cX2_tell 6 = .ok (.invokevirtual 19, 3) := by decide +kernel
theorem dX2_tell_9 : decode cX2_tell 9 = .ok (.iconst 1, 1) := by decide +kernel
theorem dX2_tell_10 : decode cX2_tell 10 = .ok (.istore_n 2, 1) := by decide +kernel
theorem dX2_tell_11 : decode cX2_tell 11 = .ok (.iload_n 2, 1) := by decide +kernel
theorem dX2_tell_12 : decode cX2_tell 12 = .ok (.bipush 120, 2) := by decide +kernel
theorem dX2_tell_14 : decode cX2_tell 14 = .ok (.if_icmp .gt 52, 3) := by decide +kernel
theorem dX2_tell_17 : decode cX2_tell 17 = .ok (.aload_n 0, 1) := by decide +kernel
theorem dX2_tell_18 : decode cX2_tell 18 = .ok (.aload_n 1, 1) := by decide +kernel
theorem dX2_tell_19 : decode cX2_tell 19 = .ok (.invokevirtual 24, 3) := by decide +kernel
theorem dX2_tell_22 : decode cX2_tell 22 = .ok (.ifCond .ne 10, 3) := by decide +kernel
theorem dX2_tell_25 : decode cX2_tell 25 = .ok (.iconst (-1), 1) := by decide +kernel
theorem dX2_tell_26 : decode cX2_tell 26 = .ok (.aload_n 0, 1) := by decide +kernel
theorem dX2_tell_27 : decode cX2_tell 27 = .ok (.getfield 28, 3) := by decide +kernel
theorem dX2_tell_30 : decode cX2_tell 30 = .ok (.isub, 1) := by decide +kernel
theorem dX2_tell_31 : decode cX2_tell 31 = .ok (.ireturn, 1) := by decide +kernel
theorem dX2_tell_32 : decode cX2_tell 32 = .ok (.aload_n 0, 1) := by decide +kernel
theorem dX2_tell_33 : decode cX2_tell 33 = .ok (.getfield 31, 3) := by decide +kernel
theorem dX2_tell_36 : decode cX2_tell 36 = .ok (.ifCond .ne 5, 3) := by decide +kernel
theorem dX2_tell_39 : decode cX2_tell 39 = .ok (.iload_n 2, 1) := by decide +kernel
theorem dX2_tell_40 : decode cX2_tell 40 = .ok (.ireturn, 1) := by decide +kernel
theorem dX2_tell_41 : decode cX2_tell 41 = .ok (.aload_n 0, 1) := by decide +kernel
theorem dX2_tell_42 : decode cX2_tell 42 = .ok (.getfield 31, 3) := by decide +kernel
theorem dX2_tell_45 : decode cX2_tell 45 = .ok (.iconst 3, 1) := by decide +kernel
theorem dX2_tell_46 : decode cX2_tell 46 = .ok (.if_icmp .eq 10, 3) := by decide +kernel
theorem dX2_tell_49 : decode cX2_tell 49 = .ok (.iconst (-1), 1) := by decide +kernel
theorem dX2_tell_50 : decode cX2_tell 50 = .ok (.aload_n 0, 1) := by decide +kernel
theorem dX2_tell_51 : decode cX2_tell 51 = .ok (.getfield 28, 3) := by decide +kernel
theorem dX2_tell_54 : decode cX2_tell 54 = .ok (.isub, 1) := by decide +kernel
theorem dX2_tell_55 : decode cX2_tell 55 = .ok (.ireturn, 1) := by decide +kernel
theorem dX2_tell_56 : decode cX2_tell 56 = .ok (.aload_n 0, 1) := by decide +kernel
theorem dX2_tell_57 : decode cX2_tell 57 = .ok (.invokevirtual 19, 3) := by decide +kernel
theorem dX2_tell_60 : decode cX2_tell 60 = .ok (.iinc 2 1, 3) := by decide +kernel
theorem dX2_tell_63 : decode cX2_tell 63 = .ok (.goto (-52), 3) := by decide +kernel
theorem dX2_tell_66 : decode cX2_tell 66 = .ok (.iconst (-1), 1) := by decide +kernel
theorem dX2_tell_67 : decode cX2_tell 67 = .ok (.aload_n 0, 1) := by decide +kernel
theorem dX2_tell_68 : decode cX2_tell 68 = .ok (.getfield 28, 3) := by decide +kernel
theorem dX2_tell_71 : decode cX2_tell 71 = .ok (.isub, 1) := by decide +kernel
theorem dX2_tell_72 : decode cX2_tell 72 = .ok (.ireturn, 1) := by decide +kernel
set_option maxRecDepth 20000 in
theorem ggX2_tellItem_X2_kindAtHand : GoodIn wsX2_tellItem wsX2_kindAtHand := goodIn_r _ [6, 7, 8, 9, 5, 10, 11, 12, 13, 14, 15, 16, 17, 18, 19, 20, 21, 22, 23, 24, 25, 26, 27, 28, 29, 30, 31, 32, 33, 34, 35, 36, 37, 38, 39, 40, 41, 42, 43, 44, 45, 46, 47, 48, 49, 50, 51, 52, 53, 54, 55, 56, 57, 58, 59, 60, 61, 62, 63, 64, 65, 66, 67, 68, 69, 70, 126, 127, 128, 129, 130, 131, 132] (by decide +kernel) (by decide +kernel)
set_option maxRecDepth 20000 in
theorem gX2_tellItem_X2_kindAtHand : GoodIn wsX2_tellItem (wsV RX2 34 RX2 yX2_kindAtHand wsX2_kindAtHand) := goodIn_app (goodIn_of _ (by decide +kernel)) ggX2_tellItem_X2_kindAtHand
set_option maxRecDepth 20000 in
theorem ggX2_tellItem_X2_tellPart : GoodIn wsX2_tellItem wsX2_tellPart := goodIn_r _ [74, 75, 76, 77, 78, 79, 80, 81, 82, 83, 5, 84, 12, 13, 14, 85, 11, 86, 87, 88, 89, 90, 27, 28, 29, 30, 31, 32, 33, 91, 92, 93, 94, 95, 96, 97, 98, 99, 100, 7, 8, 9, 10, 15, 16, 17, 18, 19, 20, 21, 22, 23, 24, 25, 26, 34, 35, 36, 37, 38, 39, 40, 41, 42, 43, 44, 45, 46, 47, 48, 49, 50, 51, 52, 53, 54, 55, 56, 57, 58, 59, 60, 61, 62, 63, 64, 65, 66, 67, 68, 69, 70, 101, 102, 103, 104, 105, 106, 107, 108, 109, 110, 116, 117, 118, 119, 120, 121, 122, 123, 124, 125, 126, 127, 128, 129, 130, 131, 132] (by decide +kernel) (by decide +kernel)
set_option maxRecDepth 20000 in
theorem gX2_tellItem_X2_tellPart : GoodIn wsX2_tellItem (wsV RX2 38 RX2 yX2_tellPart wsX2_tellPart) := goodIn_app (goodIn_of _ (by decide +kernel)) ggX2_tellItem_X2_tellPart
set_option maxRecDepth 20000 in
theorem ggX2_tellItem_X2_isAtHand : GoodIn wsX2_tellItem wsX2_isAtHand := goodIn_r _ [10, 11, 12, 13, 14, 15, 16, 17, 18, 19, 20, 21, 22, 23, 24, 25, 26, 27, 28, 29, 30, 31, 32, 33, 34, 35, 36, 37, 38, 39, 40, 41, 42, 43, 44, 45, 46, 47, 48, 49, 50, 51, 52, 53, 54, 55, 56, 57, 58, 59, 60, 61, 62, 63, 64, 65, 66, 67, 68, 69, 70, 126, 127, 128, 129, 130, 131, 132] (by decide +kernel) (by decide +kernel)
set_option maxRecDepth 20000 in
theorem gX2_tellItem_X2_isAtHand : GoodIn wsX2_tellItem (wsV RX2 44 RX2 yX2_isAtHand wsX2_isAtHand) := goodIn_app (goodIn_of _ (by decide +kernel)) ggX2_tellItem_X2_isAtHand
set_option maxRecDepth 20000 in
theorem ggX2_tellItem_X2_tellDay : GoodIn wsX2_tellItem wsX2_tellDay := goodIn_r _ [114, 115, 81, 82, 83, 5, 84, 12, 13, 14, 85, 11, 86, 87, 88, 89, 90, 27, 28, 29, 30, 31, 32, 33, 91, 92, 93, 94, 95, 96, 97, 98, 99, 100, 116, 117, 118, 119, 120, 121, 122, 123, 124, 125, 126, 127, 128, 129, 130, 131, 132] (by decide +kernel) (by decide +kernel)
set_option maxRecDepth 20000 in
theorem gX2_tellItem_X2_tellDay : GoodIn wsX2_tellItem (wsV RX2 48 RX2 yX2_tellDay wsX2_tellDay) := goodIn_app (goodIn_of _ (by decide +kernel)) ggX2_tellItem_X2_tellDay
set_option maxRecDepth 20000 in
theorem ggX2_tellItem_X2_step : GoodIn wsX2_tellItem wsX2_step := goodIn_r _ [84, 12, 13, 14, 85, 11, 86, 87, 88, 89, 90, 27, 28, 29, 30, 31, 32, 33, 91, 92, 5, 93, 94, 95, 96, 126, 127, 128, 129, 130, 131, 132] (by decide +kernel) (by decide +kernel)
set_option maxRecDepth 20000 in
theorem gX2_tellItem_X2_step : GoodIn wsX2_tellItem (wsV RX2 19 RX2 yX2_step wsX2_step) := goodIn_app (goodIn_of _ (by decide +kernel)) ggX2_tellItem_X2_step
set_option maxRecDepth 20000 in
theorem ggX2_tellItem_X2_takeNumber : GoodIn wsX2_tellItem wsX2_takeNumber := goodIn_r _ [100, 11, 86, 81, 82, 83, 5, 84, 12, 13, 14, 85, 87, 88, 89, 90, 27, 28, 29, 30, 31, 32, 33, 91, 92, 93, 94, 95, 96, 126, 127, 128, 129, 130, 131, 132] (by decide +kernel) (by decide +kernel)
set_option maxRecDepth 20000 in
theorem gX2_tellItem_X2_takeNumber : GoodIn wsX2_tellItem (wsV RX2 55 RX2 yX2_takeNumber wsX2_takeNumber) := goodIn_app (goodIn_of _ (by decide +kernel)) ggX2_tellItem_X2_takeNumber
theorem dX2_tellItem_0 : decode cX2_tellItem 0 = .ok (.aload_n 0, 1) := by decide +kernel
theorem dX2_tellItem_1 : decode cX2_tellItem 1 = .ok (.invokevirtual 34, 3) := by decide +kernel
theorem dX2_tellItem_4 : decode cX2_tellItem 4 = .ok (.istore_n 2, 1) := by decide +kernel
theorem dX2_tellItem_5 : decode cX2_tellItem 5 = .ok (.iload_n 2, 1) := by decide +kernel
theorem dX2_tellItem_6 : decode cX2_tellItem 6 = .ok (.ifCond .lt 10, 3) := by decide +kernel
theorem dX2_tellItem_9 : decode cX2_tellItem 9 = .ok (.aload_n 0, 1) := by decide +kernel
theorem dX2_tellItem_10 : decode cX2_tellItem 10 = .ok (.aload_n 1, 1) := by decide +kernel
theorem dX2_tellItem_11 : decode cX2_tellItem 11 = .ok (.iload_n 2, 1) := by decide +kernel
theorem dX2_tellItem_12 : decode cX2_tellItem 12 = .ok (.invokevirtual 38, 3) := by decide +kernel
theorem dX2_tellItem_15 : decode cX2_tellItem 15 = .ok (.ireturn, 1) := by decide +kernel
theorem dX2_tellItem_16 : decode cX2_tellItem 16 = .ok (.aload_n 0, 1) := by decide +kernel
theorem dX2_tellItem_17 : decode cX2_tellItem 17 = .ok (.ldc 42, 2) := by decide +kernel
theorem dX2_tellItem_19 : decode cX2_tellItem 19 = .ok (.invokevirtual 44, 3) := by decide +kernel
theorem dX2_tellItem_22 : decode cX2_tellItem 22 = .ok (.ifCond .eq 10, 3) := by decide +kernel
theorem dX2_tellItem_25 : decode cX2_tellItem 25 = .ok (.aload_n 0, 1) := by decide +kernel
theorem dX2_tellItem_26 : decode cX2_tellItem 26 = .ok (.aload_n 1, 1) := by decide +kernel
theorem dX2_tellItem_27 : decode cX2_tellItem 27 = .ok (.iconst 1, 1) := by decide +kernel
theorem dX2_tellItem_28 : decode cX2_tellItem 28 = .ok (.invokevirtual 48, 3) := by decide +kernel
theorem dX2_tellItem_31 : decode cX2_tellItem 31 = .ok (.ireturn, 1) := by decide +kernel
theorem dX2_tellItem_32 : decode cX2_tellItem 32 = .ok (.aload_n 0, 1) := by decide +kernel
theorem dX2_tellItem_33 : decode cX2_tellItem 33 = .ok (.ldc 51, 2) := by decide +kernel
theorem dX2_tellItem_35 : decode cX2_tellItem 35 = .ok (.invokevirtual 44, 3) := by decide +kernel
theorem dX2_tellItem_38 : decode cX2_tellItem 38 = .ok (.ifCond .eq 10, 3) := by decide +kernel
theorem dX2_tellItem_41 : decode cX2_tellItem 41 = .ok (.aload_n 0, 1) := by decide +kernel
theorem dX2_tellItem_42 : decode cX2_tellItem 42 = .ok (.aload_n 1, 1) := by decide +kernel
theorem dX2_tellItem_43 : decode cX2_tellItem 43 = .ok (.iconst 0, 1) := by decide +kernel
theorem dX2_tellItem_44 : decode cX2_tellItem 44 = .ok (.invokevirtual 48, 3) := by decide +kernel
theorem dX2_tellItem_47 : decode cX2_tellItem 47 = .ok (.ireturn, 1) := by decide +kernel
theorem dX2_tellItem_48 : decode cX2_tellItem 48 = .ok (.aload_n 0, 1) := by decide +kernel
theorem dX2_tellItem_49 : decode cX2_tellItem 49 = .ok (.ldc 53, 2) := by decide +kernel
theorem dX2_tellItem_51 : decode cX2_tellItem 51 = .ok (.invokevirtual 44, 3) := by decide +kernel
theorem dX2_tellItem_54 : decode cX2_tellItem 54 = .ok (.ifCond .eq 28, 3) := by decide +kernel
theorem dX2_tellItem_57 : decode cX2_tellItem 57 = .ok (.aload_n 0, 1) := by decide +kernel
theorem dX2_tellItem_58 : decode cX2_tellItem 58 = .ok (.invokevirtual 19, 3) := by decide +kernel
theorem dX2_tellItem_61 : decode cX2_tellItem 61 = .ok (.aload_n 0, 1) := by decide +kernel
theorem dX2_tellItem_62 : decode cX2_tellItem 62 = .ok (.iconst 0, 1) := by decide +kernel
theorem dX2_tellItem_63 : decode cX2_tellItem 63 = .ok (.bipush 99, 2) := by decide +kernel
theorem dX2_tellItem_65 : decode cX2_tellItem 65 = .ok (.invokevirtual 55, 3) := by decide +kernel
theorem dX2_tellItem_68 : decode cX2_tellItem 68 = .ok (.istore_n 3, 1) := by decide +kernel
theorem dX2_tellItem_69 : decode cX2_tellItem 69 = .ok (.iload_n 3, 1) := by decide +kernel
theorem dX2_tellItem_70 : decode cX2_tellItem 70 = .ok (.ifCond .ge 5, 3) := by decide +kernel
theorem dX2_tellItem_73 : decode cX2_tellItem 73 = .ok (.iconst 0, 1) := by decide +kernel
theorem dX2_tellItem_74 : decode cX2_tellItem 74 = .ok (.ireturn, 1) := by decide +kernel
theorem dX2_tellItem_75 : decode cX2_tellItem 75 = .ok (.aload_n 1, 1) := by decide +kernel
theorem dX2_tellItem_76 : decode cX2_tellItem 76 = .ok (.iload_n 3, 1) := by decide +kernel
theorem dX2_tellItem_77 : decode cX2_tellItem 77 = .ok (.putfield 59, 3) := by decide +kernel
theorem dX2_tellItem_80 : decode cX2_tellItem 80 = .ok (.iconst 1, 1) := by decide +kernel
theorem dX2_tellItem_81 : decode cX2_tellItem 81 = .ok (.ireturn, 1) := by decide +kernel
theorem dX2_tellItem_82 : decode cX2_tellItem 82 = .ok (.iconst 0, 1) := by decide +kernel
theorem dX2_tellItem_83 : decode cX2_tellItem 83 = .ok (.ireturn, 1) := by decide +kernel
set_option maxRecDepth 20000 in
theorem ggX2_tellPart_X1_isFull : GoodIn wsX2_tellPart wsX1_isFull := goodIn_r _ [5, 6, 102, 103, 104, 105, 106, 107, 108, 109, 110, 111] (by decide +kernel) (by decide +kernel)
set_option maxRecDepth 20000 in
theorem gX2_tellPart_X1_isFull : GoodIn wsX2_tellPart (wsV RX2 63 RX1 yX1_isFull wsX1_isFull) := goodIn_app (goodIn_of _ (by decide +kernel)) ggX2_tellPart_X1_isFull
set_option maxRecDepth 20000 in
theorem ggX2_tellPart_X2_step : GoodIn wsX2_tellPart wsX2_step := goodIn_r _ [11, 12, 13, 14, 15, 16, 17, 18, 19, 20, 21, 22, 23, 24, 25, 26, 27, 28, 29, 30, 10, 31, 32, 33, 34, 112, 113, 114, 115, 116, 117, 118] (by decide +kernel) (by decide +kernel)
set_option maxRecDepth 20000 in
theorem gX2_tellPart_X2_step : GoodIn wsX2_tellPart (wsV RX2 19 RX2 yX2_step wsX2_step) := goodIn_app (goodIn_of _ (by decide +kernel)) ggX2_tellPart_X2_step
set_option maxRecDepth 20000 in
theorem ggX2_tellPart_X2_takeNumber : GoodIn wsX2_tellPart wsX2_takeNumber := goodIn_r _ [38, 16, 17, 7, 8, 9, 10, 11, 12, 13, 14, 15, 18, 19, 20, 21, 22, 23, 24, 25, 26, 27, 28, 29, 30, 31, 32, 33, 34, 112, 113, 114, 115, 116, 117, 118] (by decide +kernel) (by decide +kernel)
set_option maxRecDepth 20000 in
theorem gX2_tellPart_X2_takeNumber : GoodIn wsX2_tellPart (wsV RX2 55 RX2 yX2_takeNumber wsX2_takeNumber) := goodIn_app (goodIn_of _ (by decide +kernel)) ggX2_tellPart_X2_takeNumber
set_option maxRecDepth 20000 in
theorem ggX2_tellPart_X2_isAtHand : GoodIn wsX2_tellPart wsX2_isAtHand := goodIn_r _ [42, 16, 12, 13, 14, 43, 44, 45, 46, 47, 48, 49, 50, 51, 52, 53, 54, 22, 23, 24, 25, 26, 27, 28, 55, 56, 57, 58, 59, 60, 61, 62, 63, 64, 65, 66, 67, 68, 69, 70, 71, 72, 73, 74, 75, 76, 77, 78, 79, 80, 81, 82, 83, 84, 85, 86, 87, 88, 89, 90, 91, 112, 113, 114, 115, 116, 117, 118] (by decide +kernel) (by decide +kernel)
set_option maxRecDepth 20000 in
theorem gX2_tellPart_X2_isAtHand : GoodIn wsX2_tellPart (wsV RX2 44 RX2 yX2_isAtHand wsX2_isAtHand) := goodIn_app (goodIn_of _ (by decide +kernel)) ggX2_tellPart_X2_isAtHand
set_option maxRecDepth 20000 in
theorem ggX2_tellPart_X1_add : GoodIn wsX2_tellPart wsX1_add := goodIn_r _ [95, 6, 96, 97, 98, 99, 100, 101, 2, 3, 4, 5, 102, 103, 104, 105, 106, 107, 108, 109, 110, 111] (by decide +kernel) (by decide +kernel)
set_option maxRecDepth 20000 in
theorem gX2_tellPart_X1_add : GoodIn wsX2_tellPart (wsV RX2 71 RX1 yX1_add wsX1_add) := goodIn_app (goodIn_of _ (by decide +kernel)) ggX2_tellPart_X1_add
theorem dX2_tellPart_0 : decode cX2_tellPart 0 = .ok (.aload_n 1, 1) := by decide +kernel
theorem dX2_tellPart_1 : decode cX2_tellPart 1 = .ok (.invokevirtual 63, 3) := by decide +kernel
theorem dX2_tellPart_4 : decode cX2_tellPart 4 = .ok (.ifCond .eq 5, 3) := by decide +kernel
theorem dX2_tellPart_7 : decode cX2_tellPart 7 = .ok (.iconst 0, 1) := by decide +kernel
theorem dX2_tellPart_8 : decode cX2_tellPart 8 = .ok (.ireturn, 1) := by decide +kernel
theorem dX2_tellPart_9 : decode cX2_tellPart 9 = .ok (.aload_n 0, 1) := by decide +kernel
theorem dX2_tellPart_10 : decode cX2_tellPart 10 = .ok (.invokevirtual 19, 3) := by decide +kernel
theorem dX2_tellPart_13 : decode cX2_tellPart 13 = .ok (.aload_n 0, 1) := by decide +kernel
theorem dX2_tellPart_14 : decode cX2_tellPart 14 = .ok (.iconst 0, 1) := by decide +kernel
theorem dX2_tellPart_15 : decode cX2_tellPart 15 = .ok (.sipush 9999, 3) := by decide +kernel
theorem dX2_tellPart_18 : decode cX2_tellPart 18 = .ok (.invokevirtual 55, 3) := by decide +kernel
theorem dX2_tellPart_21 : decode cX2_tellPart 21 = .ok (.istore_n 3, 1) := by decide +kernel
theorem dX2_tellPart_22 : decode cX2_tellPart 22 = .ok (.iload_n 3, 1) := by decide +kernel
theorem dX2_tellPart_23 : decode cX2_tellPart 23 = .ok (.ifCond .ge 5, 3) := by decide +kernel
theorem dX2_tellPart_26 : decode cX2_tellPart 26 = .ok (.iconst 0, 1) := by decide +kernel
theorem dX2_tellPart_27 : decode cX2_tellPart 27 = .ok (.ireturn, 1) := by decide +kernel
theorem dX2_tellPart_28 : decode cX2_tellPart 28 = .ok (.bipush 10, 2) := by decide +kernel
theorem dX2_tellPart_30 : decode cX2_tellPart 30 = .ok (.istore 4, 2) := by decide +kernel
theorem dX2_tellPart_32 : decode cX2_tellPart 32 = .ok (.aload_n 0, 1) := by decide +kernel
theorem dX2_tellPart_33 : decode cX2_tellPart 33 = .ok (.ldc 67, 2) := by decide +kernel
theorem dX2_tellPart_35 : decode cX2_tellPart 35 = .ok (.invokevirtual 44, 3) := by decide +kernel
theorem dX2_tellPart_38 : decode cX2_tellPart 38 = .ok (.ifCond .eq 23, 3) := by decide +kernel
theorem dX2_tellPart_41 : decode cX2_tellPart 41 = .ok (.aload_n 0, 1) := by decide +kernel
theorem dX2_tellPart_42 : decode cX2_tellPart 42 = .ok (.invokevirtual 19, 3) := by decide +kernel
theorem dX2_tellPart_45 : decode cX2_tellPart 45 = .ok (.aload_n 0, 1) := by decide +kernel
theorem dX2_tellPart_46 : decode cX2_tellPart 46 = .ok (.iconst 1, 1) := by decide +kernel
theorem dX2_tellPart_47 : decode cX2_tellPart 47 = .ok (.bipush 99, 2) := by decide +kernel
theorem dX2_tellPart_49 : decode cX2_tellPart 49 = .ok (.invokevirtual 55, 3) := by decide +kernel
theorem dX2_tellPart_52 : decode cX2_tellPart 52 = .ok (.istore 4, 2) := by decide +kernel
theorem dX2_tellPart_54 : decode cX2_tellPart 54 = .ok (.iload 4, 2) := by decide +kernel
theorem dX2_tellPart_56 : decode cX2_tellPart 56 = .ok (.ifCond .ge 5, 3) := by decide +kernel
theorem dX2_tellPart_59 : decode cX2_tellPart 59 = .ok (.iconst 0, 1) := by decide +kernel
theorem dX2_tellPart_60 : decode cX2_tellPart 60 = .ok (.ireturn, 1) := by decide +kernel
theorem dX2_tellPart_61 : decode cX2_tellPart 61 = .ok (.iconst 0, 1) := by decide +kernel
theorem dX2_tellPart_62 : decode cX2_tellPart 62 = .ok (.istore 5, 2) := by decide +kernel
theorem dX2_tellPart_64 : decode cX2_tellPart 64 = .ok (.aload_n 0, 1) := by decide +kernel
theorem dX2_tellPart_65 : decode cX2_tellPart 65 = .ok (.ldc 69, 2) := by decide +kernel
theorem dX2_tellPart_67 : decode cX2_tellPart 67 = .ok (.invokevirtual 44, 3) := by decide +kernel
theorem dX2_tellPart_70 : decode cX2_tellPart 70 = .ok (.ifCond .eq 23, 3) := by decide +kernel
theorem dX2_tellPart_73 : decode cX2_tellPart 73 = .ok (.aload_n 0, 1) := by decide +kernel
theorem dX2_tellPart_74 : decode cX2_tellPart 74 = .ok (.invokevirtual 19, 3) := by decide +kernel
theorem dX2_tellPart_77 : decode cX2_tellPart 77 = .ok (.aload_n 0, 1) := by decide +kernel
theorem dX2_tellPart_78 : decode cX2_tellPart 78 = .ok (.iconst 0, 1) := by decide +kernel
theorem dX2_tellPart_79 : decode cX2_tellPart 79 = .ok (.bipush 99, 2) := by decide +kernel
theorem dX2_tellPart_81 : decode cX2_tellPart 81 = .ok (.invokevirtual 55, 3) := by decide +kernel
theorem dX2_tellPart_84 : decode cX2_tellPart 84 = .ok (.istore 5, 2) := by decide +kernel
theorem dX2_tellPart_86 : decode cX2_tellPart 86 = .ok (.iload 5, 2) := by decide +kernel
theorem dX2_tellPart_88 : decode cX2_tellPart 88 = .ok (.ifCond .ge 5, 3) := by decide +kernel
theorem dX2_tellPart_91 : decode cX2_tellPart 91 = .ok (.iconst 0, 1) := by decide +kernel
theorem dX2_tellPart_92 : decode cX2_tellPart 92 = .ok (.ireturn, 1) := by decide +kernel
theorem dX2_tellPart_93 : decode cX2_tellPart 93 = .ok (.aload_n 1, 1) := by decide +kernel
theorem dX2_tellPart_94 : decode cX2_tellPart 94 = .ok (.iload_n 2, 1) := by decide +kernel
theorem dX2_tellPart_95 : decode cX2_tellPart 95 = .ok (.iload 4, 2) := by decide +kernel
theorem dX2_tellPart_97 : decode cX2_tellPart 97 = .ok (.iload_n 3, 1) := by decide +kernel
theorem dX2_tellPart_98 : decode cX2_tellPart 98 = .ok (.iload 5, 2) := by decide +kernel
theorem dX2_tellPart_100 : decode cX2_tellPart 100 = .ok (.invokevirtual 71, 3) := by decide +kernel
theorem dX2_tellPart_103 : decode cX2_tellPart 103 = .ok (.pop, 1) := by decide +kernel
theorem dX2_tellPart_104 : decode cX2_tellPart 104 = .ok (.iconst 1, 1) := by decide +kernel
theorem dX2_tellPart_105 : decode cX2_tellPart 105 = .ok (.ireturn, 1) := by decide +kernel
set_option maxRecDepth 20000 in
theorem ggX2_tellDay_X2_step : GoodIn wsX2_tellDay wsX2_step := goodIn_r _ [6, 7, 8, 9, 10, 11, 12, 13, 14, 15, 16, 17, 18, 19, 20, 21, 22, 23, 24, 25, 5, 26, 27, 28, 29, 44, 45, 46, 47, 48, 49, 50] (by decide +kernel) (by decide +kernel)
set_option maxRecDepth 20000 in
theorem gX2_tellDay_X2_step : GoodIn wsX2_tellDay (wsV RX2 19 RX2 yX2_step wsX2_step) := goodIn_app (goodIn_of _ (by decide +kernel)) ggX2_tellDay_X2_step
set_option maxRecDepth 20000 in
theorem ggX2_tellDay_X2_takeNumber : GoodIn wsX2_tellDay wsX2_takeNumber := goodIn_r _ [33, 11, 12, 2, 3, 4, 5, 6, 7, 8, 9, 10, 13, 14, 15, 16, 17, 18, 19, 20, 21, 22, 23, 24, 25, 26, 27, 28, 29, 44, 45, 46, 47, 48, 49, 50] (by decide +kernel) (by decide +kernel)
set_option maxRecDepth 20000 in
theorem gX2_tellDay_X2_takeNumber : GoodIn wsX2_tellDay (wsV RX2 55 RX2 yX2_takeNumber wsX2_takeNumber) := goodIn_app (goodIn_of _ (by decide +kernel)) ggX2_tellDay_X2_takeNumber
theorem dX2_tellDay_0 : decode cX2_tellDay 0 = .ok (.aload_n 0, 1) := by decide +kernel
theorem dX2_tellDay_1 : decode cX2_tellDay 1 = .ok (.invokevirtual 19, 3) := by decide +kernel
theorem dX2_tellDay_4 : decode cX2_tellDay 4 = .ok (.aload_n 0, 1) := by decide +kernel
theorem dX2_tellDay_5 : decode cX2_tellDay 5 = .ok (.iconst 0, 1) := by decide +kernel
theorem dX2_tellDay_6 : decode cX2_tellDay 6 = .ok (.bipush 6, 2) := by decide +kernel
theorem dX2_tellDay_8 : decode cX2_tellDay 8 = .ok (.invokevirtual 55, 3) := by decide +kernel
theorem dX2_tellDay_11 : decode cX2_tellDay 11 = .ok (.istore_n 3, 1) := by decide +kernel
theorem dX2_tellDay_12 : decode cX2_tellDay 12 = .ok (.iload_n 3, 1) := by decide +kernel
theorem dX2_tellDay_13 : decode cX2_tellDay 13 = .ok (.ifCond .ge 5, 3) := by decide +kernel
theorem dX2_tellDay_16 : decode cX2_tellDay 16 = .ok (.iconst 0, 1) := by decide +kernel
theorem dX2_tellDay_17 : decode cX2_tellDay 17 = .ok (.ireturn, 1) := by decide +kernel
theorem dX2_tellDay_18 : decode cX2_tellDay 18 = .ok (.aload_n 1, 1) := by decide +kernel
theorem dX2_tellDay_19 : decode cX2_tellDay 19 = .ok (.getfield 75, 3) := by decide +kernel
theorem dX2_tellDay_22 : decode cX2_tellDay 22 = .ok (.iload_n 3, 1) := by decide +kernel
theorem dX2_tellDay_23 : decode cX2_tellDay 23 = .ok (.iload_n 2, 1) := by decide +kernel
theorem dX2_tellDay_24 : decode cX2_tellDay 24 = .ok (.iastore, 1) := by decide +kernel
theorem dX2_tellDay_25 : decode cX2_tellDay 25 = .ok (.iconst 1, 1) := by decide +kernel
theorem dX2_tellDay_26 : decode cX2_tellDay 26 = .ok (.ireturn, 1) := by decide +kernel
set_option maxRecDepth 20000 in
theorem ggX2_takeNumber_X2_step : GoodIn wsX2_takeNumber wsX2_step := goodIn_r _ [7, 8, 9, 10, 11, 1, 2, 12, 13, 14, 15, 16, 17, 18, 19, 20, 21, 22, 23, 24, 6, 25, 26, 27, 28, 29, 30, 31, 32, 33, 34, 35] (by decide +kernel) (by decide +kernel)
set_option maxRecDepth 20000 in
theorem gX2_takeNumber_X2_step : GoodIn wsX2_takeNumber (wsV RX2 19 RX2 yX2_step wsX2_step) := goodIn_app (goodIn_of _ (by decide +kernel)) ggX2_takeNumber_X2_step
theorem dX2_takeNumber_0 : decode cX2_takeNumber 0 = .ok (.aload_n 0, 1) := by decide +kernel
theorem dX2_takeNumber_1 : decode cX2_takeNumber 1 = .ok (.getfield 31, 3) := by decide +kernel
theorem dX2_takeNumber_4 : decode cX2_takeNumber 4 = .ok (.iconst 2, 1) := by decide +kernel
theorem dX2_takeNumber_5 : decode cX2_takeNumber 5 = .ok (.if_icmp .ne 19, 3) := by decide +kernel
theorem dX2_takeNumber_8 : decode cX2_takeNumber 8 = .ok (.aload_n 0, 1) := by decide +kernel
theorem dX2_takeNumber_9 : decode cX2_takeNumber 9 = .ok (.getfield 78, 3) := by decide +kernel
theorem dX2_takeNumber_12 : decode cX2_takeNumber 12 = .ok (.iload_n 1, 1) := by decide +kernel
theorem dX2_takeNumber_13 : decode cX2_takeNumber 13 = .ok (.if_icmp .lt 11, 3) := by decide +kernel
theorem dX2_takeNumber_16 : decode cX2_takeNumber 16 = .ok (.aload_n 0, 1) := by decide +kernel
theorem dX2_takeNumber_17 : decode cX2_takeNumber 17 = .ok (.getfield 78, 3) := by decide +kernel
theorem dX2_takeNumber_20 : decode cX2_takeNumber 20 = .ok (.iload_n 2, 1) := by decide +kernel
theorem dX2_takeNumber_21 : decode cX2_takeNumber 21 = .ok (.if_icmp .le 5, 3) := by decide +kernel
theorem dX2_takeNumber_24 : decode cX2_takeNumber 24 = .ok (.iconst (-1), 1) := by decide +kernel
theorem dX2_takeNumber_25 : decode cX2_takeNumber 25 = .ok (.ireturn, 1) := by decide +kernel
theorem dX2_takeNumber_26 : decode cX2_takeNumber 26 = .ok (.aload_n 0, 1) := by decide +kernel
theorem dX2_takeNumber_27 : decode cX2_takeNumber 27 = .ok (.getfield 78, 3) := by decide +kernel
theorem dX2_takeNumber_30 : decode cX2_takeNumber 30 = .ok (.istore_n 3, 1) := by decide +kernel
theorem dX2_takeNumber_31 : decode cX2_takeNumber 31 = .ok (.aload_n 0, 1) := by decide +kernel
theorem dX2_takeNumber_32 : decode cX2_takeNumber 32 = .ok (.invokevirtual 19, 3) := by decide +kernel
theorem dX2_takeNumber_35 : decode cX2_takeNumber 35 = .ok (.iload_n 3, 1) := by decide +kernel
theorem dX2_takeNumber_36 : decode cX2_takeNumber 36 = .ok (.ireturn, 1) := by decide +kernel
set_option maxRecDepth 20000 in
theorem ggX2_kindAtHand_X2_isAtHand : GoodIn wsX2_kindAtHand wsX2_isAtHand := goodIn_r _ [5, 6, 7, 8, 9, 10, 11, 12, 13, 14, 15, 16, 17, 18, 19, 20, 21, 22, 23, 24, 25, 26, 27, 28, 29, 30, 31, 32, 33, 34, 35, 36, 37, 38, 39, 40, 41, 42, 43, 44, 45, 46, 47, 48, 49, 50, 51, 52, 53, 54, 55, 56, 57, 58, 59, 60, 61, 62, 63, 64, 65, 66, 67, 68, 69, 70, 71, 72] (by decide +kernel) (by decide +kernel)
set_option maxRecDepth 20000 in
theorem gX2_kindAtHand_X2_isAtHand : GoodIn wsX2_kindAtHand (wsV RX2 44 RX2 yX2_isAtHand wsX2_isAtHand) := goodIn_app (goodIn_of _ (by decide +kernel)) ggX2_kindAtHand_X2_isAtHand
theorem dX2_kindAtHand_0 : decode cX2_kindAtHand 0 = .ok (.aload_n 0, 1) := by decide +kernel
theorem dX2_kindAtHand_1 : decode cX2_kindAtHand 1 = .ok (.ldc 81, 2) := by decide +kernel
theorem dX2_kindAtHand_3 : decode cX2_kindAtHand 3 = .ok (.invokevirtual 44, 3) := by decide +kernel
theorem dX2_kindAtHand_6 : decode cX2_kindAtHand 6 = .ok (.ifCond .eq 5, 3) := by decide +kernel
theorem dX2_kindAtHand_9 : decode cX2_kindAtHand 9 = .ok (.iconst 0, 1) := by decide +kernel
theorem dX2_kindAtHand_10 : decode cX2_kindAtHand 10 = .ok (.ireturn, 1) := by decide +kernel
theorem dX2_kindAtHand_11 : decode cX2_kindAtHand 11 = .ok (.aload_n 0, 1) := by decide +kernel
theorem dX2_kindAtHand_12 : decode cX2_kindAtHand 12 = .ok (.ldc 85, 2) := by decide +kernel
theorem dX2_kindAtHand_14 : decode cX2_kindAtHand 14 = .ok (.invokevirtual 44, 3) := by decide +kernel
theorem dX2_kindAtHand_17 : decode cX2_kindAtHand 17 = .ok (.ifCond .eq 5, 3) := by decide +kernel
theorem dX2_kindAtHand_20 : decode cX2_kindAtHand 20 = .ok (.iconst 1, 1) := by decide +kernel
theorem dX2_kindAtHand_21 : decode cX2_kindAtHand 21 = .ok (.ireturn, 1) := by decide +kernel
theorem dX2_kindAtHand_22 : decode cX2_kindAtHand 22 = .ok (.aload_n 0, 1) := by decide +kernel
theorem dX2_kindAtHand_23 : decode cX2_kindAtHand 23 = .ok (.ldc 87, 2) := by decide +kernel
theorem dX2_kindAtHand_25 : decode cX2_kindAtHand 25 = .ok (.invokevirtual 44, 3) := by decide +kernel
theorem dX2_kindAtHand_28 : decode cX2_kindAtHand 28 = .ok (.ifCond .eq 5, 3) := by decide +kernel
theorem dX2_kindAtHand_31 : decode cX2_kindAtHand 31 = .ok (.iconst 2, 1) := by decide +kernel
theorem dX2_kindAtHand_32 : decode cX2_kindAtHand 32 = .ok (.ireturn, 1) := by decide +kernel
theorem dX2_kindAtHand_33 : decode cX2_kindAtHand 33 = .ok (.aload_n 0, 1) := by decide +kernel
theorem dX2_kindAtHand_34 : decode cX2_kindAtHand 34 = .ok (.ldc 89, 2) := by decide +kernel
theorem dX2_kindAtHand_36 : decode cX2_kindAtHand 36 = .ok (.invokevirtual 44, 3) := by decide +kernel
theorem dX2_kindAtHand_39 : decode cX2_kindAtHand 39 = .ok (.ifCond .eq 5, 3) := by decide +kernel
theorem dX2_kindAtHand_42 : decode cX2_kindAtHand 42 = .ok (.iconst 3, 1) := by decide +kernel
theorem dX2_kindAtHand_43 : decode cX2_kindAtHand 43 = .ok (.ireturn, 1) := by decide +kernel
theorem dX2_kindAtHand_44 : decode cX2_kindAtHand 44 = .ok (.aload_n 0, 1) := by decide +kernel
theorem dX2_kindAtHand_45 : decode cX2_kindAtHand 45 = .ok (.ldc 91, 2) := by decide +kernel
theorem dX2_kindAtHand_47 : decode cX2_kindAtHand 47 = .ok (.invokevirtual 44, 3) := by decide +kernel
theorem dX2_kindAtHand_50 : decode cX2_kindAtHand 50 = .ok (.ifCond .eq 5, 3) := by decide +kernel
theorem dX2_kindAtHand_53 : decode cX2_kindAtHand 53 = .ok (.iconst 4, 1) := by decide +kernel
theorem dX2_kindAtHand_54 : decode cX2_kindAtHand 54 = .ok (.ireturn, 1) := by decide +kernel
theorem dX2_kindAtHand_55 : decode cX2_kindAtHand 55 = .ok (.aload_n 0, 1) := by decide +kernel
theorem dX2_kindAtHand_56 : decode cX2_kindAtHand 56 = .ok (.ldc 93, 2) := by decide +kernel
theorem dX2_kindAtHand_58 : decode cX2_kindAtHand 58 = .ok (.invokevirtual 44, 3) := by decide +kernel
theorem dX2_kindAtHand_61 : decode cX2_kindAtHand 61 = .ok (.ifCond .eq 7, 3) := by decide +kernel
theorem dX2_kindAtHand_64 : decode cX2_kindAtHand 64 = .ok (.iconst 5, 1) := by decide +kernel
theorem dX2_kindAtHand_65 : decode cX2_kindAtHand 65 = .ok (.goto 4, 3) := by decide +kernel
theorem dX2_kindAtHand_68 : decode cX2_kindAtHand 68 = .ok (.iconst (-1), 1) := by decide +kernel
theorem dX2_kindAtHand_69 : decode cX2_kindAtHand 69 = .ok (.ireturn, 1) := by decide +kernel
set_option maxRecDepth 20000 in
theorem ggX2_isAtHand_J0_length_8abf5 : GoodIn wsX2_isAtHand wsJ0_length_8abf5 := goodIn_r _ [9, 10, 11, 12, 13, 8, 14, 15, 16] (by decide +kernel) (by decide +kernel)
set_option maxRecDepth 20000 in
theorem gX2_isAtHand_J0_length_8abf5 : GoodIn wsX2_isAtHand (wsV RX2 95 RJ0 yJ0_length_8abf5 wsJ0_length_8abf5) := goodIn_app (goodIn_of _ (by decide +kernel)) ggX2_isAtHand_J0_length_8abf5
set_option maxRecDepth 20000 in
theorem ggX2_isAtHand_X4_at : GoodIn wsX2_isAtHand wsX4_at := goodIn_r _ [21, 22, 23, 66, 67] (by decide +kernel) (by decide +kernel)
set_option maxRecDepth 20000 in
theorem gX2_isAtHand_X4_at : GoodIn wsX2_isAtHand (wsV RX2 100 RX4 yX4_at wsX4_at) := goodIn_app (goodIn_of _ (by decide +kernel)) ggX2_isAtHand_X4_at
set_option maxRecDepth 20000 in
theorem ggX2_isAtHand_J0_charAt_5068e : GoodIn wsX2_isAtHand wsJ0_charAt_5068e := goodIn_r _ [27, 10, 28, 29, 30, 8, 31, 15, 16, 32, 33, 34, 35, 36, 37, 38, 39, 40, 41, 42, 43, 44, 45, 46, 47, 48, 49, 50, 51, 52, 53, 54, 55, 56, 57, 58, 59, 60] (by decide +kernel) (by decide +kernel)
set_option maxRecDepth 20000 in
theorem gX2_isAtHand_J0_charAt_5068e : GoodIn wsX2_isAtHand (wsV RX2 104 RJ0 yJ0_charAt_5068e wsJ0_charAt_5068e) := goodIn_app (goodIn_of _ (by decide +kernel)) ggX2_isAtHand_J0_charAt_5068e
theorem dX2_isAtHand_0 : decode cX2_isAtHand 0 = .ok (.aload_n 0, 1) := by decide +kernel
theorem dX2_isAtHand_1 : decode cX2_isAtHand 1 = .ok (.getfield 31, 3) := by decide +kernel
theorem dX2_isAtHand_4 : decode cX2_isAtHand 4 = .ok (.iconst 1, 1) := by decide +kernel
theorem dX2_isAtHand_5 : decode cX2_isAtHand 5 = .ok (.if_icmp .ne 19, 3) := by decide +kernel
theorem dX2_isAtHand_8 : decode cX2_isAtHand 8 = .ok (.aload_n 0, 1) := by decide +kernel
theorem dX2_isAtHand_9 : decode cX2_isAtHand 9 = .ok (.getfield 15, 3) := by decide +kernel
theorem dX2_isAtHand_12 : decode cX2_isAtHand 12 = .ok (.aload_n 0, 1) := by decide +kernel
theorem dX2_isAtHand_13 : decode cX2_isAtHand 13 = .ok (.getfield 28, 3) := by decide +kernel
theorem dX2_isAtHand_16 : decode cX2_isAtHand 16 = .ok (.isub, 1) := by decide +kernel
theorem dX2_isAtHand_17 : decode cX2_isAtHand 17 = .ok (.aload_n 1, 1) := by decide +kernel
theorem dX2_isAtHand_18 : decode cX2_isAtHand 18 = .ok (.invokevirtual 95, 3) := by decide +kernel
theorem dX2_isAtHand_21 : decode cX2_isAtHand 21 = .ok (.if_icmp .eq 5, 3) := by decide +kernel
theorem dX2_isAtHand_24 : decode cX2_isAtHand 24 = .ok (.iconst 0, 1) := by decide +kernel
theorem dX2_isAtHand_25 : decode cX2_isAtHand 25 = .ok (.ireturn, 1) := by decide +kernel
theorem dX2_isAtHand_26 : decode cX2_isAtHand 26 = .ok (.iconst 0, 1) := by decide +kernel
theorem dX2_isAtHand_27 : decode cX2_isAtHand 27 = .ok (.istore_n 2, 1) := by decide +kernel
theorem dX2_isAtHand_28 : decode cX2_isAtHand 28 = .ok (.iload_n 2, 1) := by decide +kernel
theorem dX2_isAtHand_29 : decode cX2_isAtHand 29 = .ok (.aload_n 1, 1) := by decide +kernel
theorem dX2_isAtHand_30 : decode cX2_isAtHand 30 = .ok (.invokevirtual 95, 3) := by decide +kernel
theorem dX2_isAtHand_33 : decode cX2_isAtHand 33 = .ok (.if_icmp .ge 32, 3) := by decide +kernel
theorem dX2_isAtHand_36 : decode cX2_isAtHand 36 = .ok (.aload_n 0, 1) := by decide +kernel
theorem dX2_isAtHand_37 : decode cX2_isAtHand 37 = .ok (.getfield 9, 3) := by decide +kernel
theorem dX2_isAtHand_40 : decode cX2_isAtHand 40 = .ok (.aload_n 0, 1) := by decide +kernel
theorem dX2_isAtHand_41 : decode cX2_isAtHand 41 = .ok (.getfield 28, 3) := by decide +kernel
theorem dX2_isAtHand_44 : decode cX2_isAtHand 44 = .ok (.iload_n 2, 1) := by decide +kernel
theorem dX2_isAtHand_45 : decode cX2_isAtHand 45 = .ok (.iadd, 1) := by decide +kernel
theorem dX2_isAtHand_46 : decode cX2_isAtHand 46 = .ok (.invokevirtual 100, 3) := by decide +kernel
theorem dX2_isAtHand_49 : decode cX2_isAtHand 49 = .ok (.aload_n 1, 1) := by decide +kernel
theorem dX2_isAtHand_50 : decode cX2_isAtHand 50 = .ok (.iload_n 2, 1) := by decide +kernel
theorem dX2_isAtHand_51 : decode cX2_isAtHand 51 = .ok (.invokevirtual 104, 3) := by decide +kernel
theorem dX2_isAtHand_54 : decode cX2_isAtHand 54 = .ok (.if_icmp .eq 5, 3) := by decide +kernel
theorem dX2_isAtHand_57 : decode cX2_isAtHand 57 = .ok (.iconst 0, 1) := by decide +kernel
theorem dX2_isAtHand_58 : decode cX2_isAtHand 58 = .ok (.ireturn, 1) := by decide +kernel
theorem dX2_isAtHand_59 : decode cX2_isAtHand 59 = .ok (.iinc 2 1, 3) := by decide +kernel
theorem dX2_isAtHand_62 : decode cX2_isAtHand 62 = .ok (.goto (-34), 3) := by decide +kernel
theorem dX2_isAtHand_65 : decode cX2_isAtHand 65 = .ok (.iconst 1, 1) := by decide +kernel
theorem dX2_isAtHand_66 : decode cX2_isAtHand 66 = .ok (.ireturn, 1) := by decide +kernel
set_option maxRecDepth 20000 in
theorem ggX2_step_X4_at : GoodIn wsX2_step wsX4_at := goodIn_r _ [15, 16, 17, 30, 31] (by decide +kernel) (by decide +kernel)
set_option maxRecDepth 20000 in
theorem gX2_step_X4_at : GoodIn wsX2_step (wsV RX2 100 RX4 yX4_at wsX4_at) := goodIn_app (goodIn_of _ (by decide +kernel)) ggX2_step_X4_at
set_option maxRecDepth 20000 in
theorem ggX2_step_X2_isLetter : GoodIn wsX2_step wsX2_isLetter := goodIn_r _ [21] (by decide +kernel) (by decide +kernel)
set_option maxRecDepth 20000 in
theorem gX2_step_X2_isLetter : GoodIn wsX2_step (va_wsS RX2 111 yX2_isLetter wsX2_isLetter) := goodIn_app (goodIn_of _ (by decide +kernel)) ggX2_step_X2_isLetter
set_option maxRecDepth 20000 in
theorem ggX2_step_X2_isDigit : GoodIn wsX2_step wsX2_isDigit := goodIn_r _ [24] (by decide +kernel) (by decide +kernel)
set_option maxRecDepth 20000 in
theorem gX2_step_X2_isDigit : GoodIn wsX2_step (va_wsS RX2 115 yX2_isDigit wsX2_isDigit) := goodIn_app (goodIn_of _ (by decide +kernel)) ggX2_step_X2_isDigit
theorem dX2_step_0 : decode cX2_step 0 = .ok (.aload_n 0, 1) := by decide +kernel
theorem dX2_step_1 : decode cX2_step 1 = .ok (.aload_n 0, 1) := by decide +kernel
theorem dX2_step_2 : decode cX2_step 2 = .ok (.getfield 15, 3) := by decide +kernel
theorem dX2_step_5 : decode cX2_step 5 = .ok (.putfield 28, 3) := by decide +kernel
theorem dX2_step_8 : decode cX2_step 8 = .ok (.aload_n 0, 1) := by decide +kernel
theorem dX2_step_9 : decode cX2_step 9 = .ok (.getfield 28, 3) := by decide +kernel
theorem dX2_step_12 : decode cX2_step 12 = .ok (.aload_n 0, 1) := by decide +kernel
theorem dX2_step_13 : decode cX2_step 13 = .ok (.getfield 9, 3) := by decide +kernel
theorem dX2_step_16 : decode cX2_step 16 = .ok (.getfield 108, 3) := by decide +kernel
theorem dX2_step_19 : decode cX2_step 19 = .ok (.if_icmp .ge 32, 3) := by decide +kernel
theorem dX2_step_22 : decode cX2_step 22 = .ok (.aload_n 0, 1) := by decide +kernel
theorem dX2_step_23 : decode cX2_step 23 = .ok (.getfield 9, 3) := by decide +kernel
theorem dX2_step_26 : decode cX2_step 26 = .ok (.aload_n 0, 1) := by decide +kernel
theorem dX2_step_27 : decode cX2_step 27 = .ok (.getfield 28, 3) := by decide +kernel
theorem dX2_step_30 : decode cX2_step 30 = .ok (.invokevirtual 100, 3) := by decide +kernel
theorem dX2_step_33 : decode cX2_step 33 = .ok (.bipush 32, 2) := by decide +kernel
theorem dX2_step_35 : decode cX2_step 35 = .ok (.if_icmp .ne 16, 3) := by decide +kernel
theorem dX2_step_38 : decode cX2_step 38 = .ok (.aload_n 0, 1) := by decide +kernel
theorem dX2_step_39 : decode cX2_step 39 = .ok (.dup, 1) := by decide +kernel
theorem dX2_step_40 : decode cX2_step 40 = .ok (.getfield 28, 3) := by decide +kernel
theorem dX2_step_43 : decode cX2_step 43 = .ok (.iconst 1, 1) := by decide +kernel
theorem dX2_step_44 : decode cX2_step 44 = .ok (.iadd, 1) := by decide +kernel
theorem dX2_step_45 : decode cX2_step 45 = .ok (.putfield 28, 3) := by decide +kernel
theorem dX2_step_48 : decode cX2_step 48 = .ok (.goto (-40), 3) := by decide +kernel
theorem dX2_step_51 : decode cX2_step 51 = .ok (.aload_n 0, 1) := by decide +kernel
theorem dX2_step_52 : decode cX2_step 52 = .ok (.aload_n 0, 1) := by decide +kernel
theorem dX2_step_53 : decode cX2_step 53 = .ok (.getfield 28, 3) := by decide +kernel
theorem dX2_step_56 : decode cX2_step 56 = .ok (.putfield 15, 3) := by decide +kernel
theorem dX2_step_59 : decode cX2_step 59 = .ok (.aload_n 0, 1) := by decide +kernel
theorem dX2_step_60 : decode cX2_step 60 = .ok (.getfield 28, 3) := by decide +kernel
theorem dX2_step_63 : decode cX2_step 63 = .ok (.aload_n 0, 1) := by decide +kernel
theorem dX2_step_64 : decode cX2_step 64 = .ok (.getfield 9, 3) := by decide +kernel
theorem dX2_step_67 : decode cX2_step 67 = .ok (.getfield 108, 3) := by decide +kernel
theorem dX2_step_70 : decode cX2_step 70 = .ok (.if_icmp .lt 11, 3) := by decide +kernel
theorem dX2_step_73 : decode cX2_step 73 = .ok (.aload_n 0, 1) := by decide +kernel
theorem dX2_step_74 : decode cX2_step 74 = .ok (.iconst 0, 1) := by decide +kernel
theorem dX2_step_75 : decode cX2_step 75 = .ok (.putfield 31, 3) := by decide +kernel
theorem dX2_step_78 : decode cX2_step 78 = .ok (.goto 207, 3) := by decide +kernel
theorem dX2_step_81 : decode cX2_step 81 = .ok (.aload_n 0, 1) := by decide +kernel
theorem dX2_step_82 : decode cX2_step 82 = .ok (.getfield 9, 3) := by decide +kernel
theorem dX2_step_85 : decode cX2_step 85 = .ok (.aload_n 0, 1) := by decide +kernel
theorem dX2_step_86 : decode cX2_step 86 = .ok (.getfield 28, 3) := by decide +kernel
theorem dX2_step_89 : decode cX2_step 89 = .ok (.invokevirtual 100, 3) := by decide +kernel
theorem dX2_step_92 : decode cX2_step 92 = .ok (.invokestatic 111, 3) := by decide +kernel
theorem dX2_step_95 : decode cX2_step 95 = .ok (.ifCond .eq 52, 3) := by decide +kernel
theorem dX2_step_98 : decode cX2_step 98 = .ok (.aload_n 0, 1) := by decide +kernel
theorem dX2_step_99 : decode cX2_step 99 = .ok (.iconst 1, 1) := by decide +kernel
theorem dX2_step_100 : decode cX2_step 100 = .ok (.putfield 31, 3) := by decide +kernel
theorem dX2_step_103 : decode cX2_step 103 = .ok (.aload_n 0, 1) := by decide +kernel
theorem dX2_step_104 : decode cX2_step 104 = .ok (.getfield 15, 3) := by decide +kernel
theorem dX2_step_107 : decode cX2_step 107 = .ok (.aload_n 0, 1) := by decide +kernel
theorem dX2_step_108 : decode cX2_step 108 = .ok (.getfield 9, 3) := by decide +kernel
theorem dX2_step_111 : decode cX2_step 111 = .ok (.getfield 108, 3) := by decide +kernel
theorem dX2_step_114 : decode cX2_step 114 = .ok (.if_icmp .ge 171, 3) := by decide +kernel
theorem dX2_step_117 : decode cX2_step 117 = .ok (.aload_n 0, 1) := by decide +kernel
theorem dX2_step_118 : decode cX2_step 118 = .ok (.getfield 9, 3) := by decide +kernel
theorem dX2_step_121 : decode cX2_step 121 = .ok (.aload_n 0, 1) := by decide +kernel
theorem dX2_step_122 : decode cX2_step 122 = .ok (.getfield 15, 3) := by decide +kernel
theorem dX2_step_125 : decode cX2_step 125 = .ok (.invokevirtual 100, 3) := by decide +kernel
theorem dX2_step_128 : decode cX2_step 128 = .ok (.invokestatic 111, 3) := by decide +kernel
theorem dX2_step_131 : decode cX2_step 131 = .ok (.ifCond .eq 154, 3) := by decide +kernel
theorem dX2_step_134 : decode cX2_step 134 = .ok (.aload_n 0, 1) := by decide +kernel
theorem dX2_step_135 : decode cX2_step 135 = .ok (.dup, 1) := by decide +kernel
theorem dX2_step_136 : decode cX2_step 136 = .ok (.getfield 15, 3) := by decide +kernel
theorem dX2_step_139 : decode cX2_step 139 = .ok (.iconst 1, 1) := by decide +kernel
theorem dX2_step_140 : decode cX2_step 140 = .ok (.iadd, 1) := by decide +kernel
theorem dX2_step_141 : decode cX2_step 141 = .ok (.putfield 15, 3) := by decide +kernel
theorem dX2_step_144 : decode cX2_step 144 = .ok (.goto (-41), 3) := by decide +kernel
theorem dX2_step_147 : decode cX2_step 147 = .ok (.aload_n 0, 1) := by decide +kernel
theorem dX2_step_148 : decode cX2_step 148 = .ok (.getfield 9, 3) := by decide +kernel
theorem dX2_step_151 : decode cX2_step 151 = .ok (.aload_n 0, 1) := by decide +kernel
theorem dX2_step_152 : decode cX2_step 152 = .ok (.getfield 28, 3) := by decide +kernel
theorem dX2_step_155 : decode cX2_step 155 = .ok (.invokevirtual 100, 3) := by decide +kernel
theorem dX2_step_158 : decode cX2_step 158 = .ok (.invokestatic 115, 3) := by decide +kernel
theorem dX2_step_161 : decode cX2_step 161 = .ok (.ifCond .eq 89, 3) := by decide +kernel
theorem dX2_step_164 : decode cX2_step 164 = .ok (.aload_n 0, 1) := by decide +kernel
theorem dX2_step_165 : decode cX2_step 165 = .ok (.iconst 2, 1) := by decide +kernel
theorem dX2_step_166 : decode cX2_step 166 = .ok (.putfield 31, 3) := by decide +kernel
theorem dX2_step_169 : decode cX2_step 169 = .ok (.aload_n 0, 1) := by decide +kernel
theorem dX2_step_170 : decode cX2_step 170 = .ok (.iconst 0, 1) := by decide +kernel
theorem dX2_step_171 : decode cX2_step 171 = .ok (.putfield 78, 3) := by decide +kernel
theorem dX2_step_174 : decode cX2_step 174 = .ok (.aload_n 0, 1) := by decide +kernel
theorem dX2_step_175 : decode cX2_step 175 = .ok (.getfield 15, 3) := by decide +kernel
theorem dX2_step_178 : decode cX2_step 178 = .ok (.aload_n 0, 1) := by decide +kernel
theorem dX2_step_179 : decode cX2_step 179 = .ok (.getfield 9, 3) := by decide +kernel
theorem dX2_step_182 : decode cX2_step 182 = .ok (.getfield 108, 3) := by decide +kernel
theorem dX2_step_185 : decode cX2_step 185 = .ok (.if_icmp .ge 100, 3) := by decide +kernel
theorem dX2_step_188 : decode cX2_step 188 = .ok (.aload_n 0, 1) := by decide +kernel
theorem dX2_step_189 : decode cX2_step 189 = .ok (.getfield 9, 3) := by decide +kernel
theorem dX2_step_192 : decode cX2_step 192 = .ok (.aload_n 0, 1) := by decide +kernel
theorem dX2_step_193 : decode cX2_step 193 = .ok (.getfield 15, 3) := by decide +kernel
theorem dX2_step_196 : decode cX2_step 196 = .ok (.invokevirtual 100, 3) := by decide +kernel
theorem dX2_step_199 : decode cX2_step 199 = .ok (.invokestatic 115, 3) := by decide +kernel
theorem dX2_step_202 : decode cX2_step 202 = .ok (.ifCond .eq 83, 3) := by decide +kernel
theorem dX2_step_205 : decode cX2_step 205 = .ok (.aload_n 0, 1) := by decide +kernel
theorem dX2_step_206 : decode cX2_step 206 = .ok (.sipush 10000, 3) := by decide +kernel
theorem dX2_step_209 : decode cX2_step 209 = .ok (.bipush 10, 2) := by decide +kernel
theorem dX2_step_211 : decode cX2_step 211 = .ok (.aload_n 0, 1) := by decide +kernel
theorem dX2_step_212 : decode cX2_step 212 = .ok (.getfield 78, 3) := by decide +kernel
theorem dX2_step_215 : decode cX2_step 215 = .ok (.imul, 1) := by decide +kernel
theorem dX2_step_216 : decode cX2_step 216 = .ok (.aload_n 0, 1) := by decide +kernel
theorem dX2_step_217 : decode cX2_step 217 = .ok (.getfield 9, 3) := by decide +kernel
theorem dX2_step_220 : decode cX2_step 220 = .ok (.aload_n 0, 1) := by decide +kernel
theorem dX2_step_221 : decode cX2_step 221 = .ok (.getfield 15, 3) := by decide +kernel
theorem dX2_step_224 : decode cX2_step 224 = .ok (.invokevirtual 100, 3) := by decide +kernel
theorem dX2_step_227 : decode cX2_step 227 = .ok (.bipush 48, 2) := by decide +kernel
theorem dX2_step_229 : decode cX2_step 229 = .ok (.isub, 1) := by decide +kernel
theorem dX2_step_230 : decode cX2_step 230 = .ok (.iadd, 1) := by decide +kernel
theorem dX2_step_231 : decode cX2_step 231 = .ok (.invokestatic 118, 3) := by decide +kernel
theorem dX2_step_234 : decode cX2_step 234 = .ok (.putfield 78, 3) := by decide +kernel
theorem dX2_step_237 : decode cX2_step 237 = .ok (.aload_n 0, 1) := by decide +kernel
theorem dX2_step_238 : decode cX2_step 238 = .ok (.dup, 1) := by decide +kernel
theorem dX2_step_239 : decode cX2_step 239 = .ok (.getfield 15, 3) := by decide +kernel
theorem dX2_step_242 : decode cX2_step 242 = .ok (.iconst 1, 1) := by decide +kernel
theorem dX2_step_243 : decode cX2_step 243 = .ok (.iadd, 1) := by decide +kernel
theorem dX2_step_244 : decode cX2_step 244 = .ok (.putfield 15, 3) := by decide +kernel
theorem dX2_step_247 : decode cX2_step 247 = .ok (.goto (-73), 3) := by decide +kernel
theorem dX2_step_250 : decode cX2_step 250 = .ok (.aload_n 0, 1) := by decide +kernel
theorem dX2_step_251 : decode cX2_step 251 = .ok (.aload_n 0, 1) := by decide +kernel
theorem dX2_step_252 : decode cX2_step 252 = .ok (.getfield 9, 3) := by decide +kernel
theorem dX2_step_255 : decode cX2_step 255 = .ok (.aload_n 0, 1) := by decide +kernel
theorem dX2_step_256 : decode cX2_step 256 = .ok (.getfield 28, 3) := by decide +kernel
theorem dX2_step_259 : decode cX2_step 259 = .ok (.invokevirtual 100, 3) := by decide +kernel
theorem dX2_step_262 : decode cX2_step 262 = .ok (.bipush 59, 2) := by decide +kernel
theorem dX2_step_264 : decode cX2_step 264 = .ok (.if_icmp .ne 7, 3) := by decide +kernel
theorem dX2_step_267 : decode cX2_step 267 = .ok (.iconst 3, 1) := by decide +kernel
theorem dX2_step_268 : decode cX2_step 268 = .ok (.goto 4, 3) := by decide +kernel
theorem dX2_step_271 : decode cX2_step 271 = .ok (.iconst 4, 1) := by decide +kernel
theorem dX2_step_272 : decode cX2_step 272 = .ok (.putfield 31, 3) := by decide +kernel
theorem dX2_step_275 : decode cX2_step 275 = .ok (.aload_n 0, 1) := by decide +kernel
theorem dX2_step_276 : decode cX2_step 276 = .ok (.dup, 1) := by decide +kernel
theorem dX2_step_277 : decode cX2_step 277 = .ok (.getfield 15, 3) := by decide +kernel
theorem dX2_step_280 : decode cX2_step 280 = .ok (.iconst 1, 1) := by decide +kernel
theorem dX2_step_281 : decode cX2_step 281 = .ok (.iadd, 1) := by decide +kernel
theorem dX2_step_282 : decode cX2_step 282 = .ok (.putfield 15, 3) := by decide +kernel
theorem dX2_step_285 : decode cX2_step 285 = .ok (.return_, 1) := by decide +kernel
theorem dX2_isLetter_0 : decode cX2_isLetter 0 = .ok (.iload_n 0, 1) := by decide +kernel
theorem dX2_isLetter_1 : decode cX2_isLetter 1 = .ok (.bipush 97, 2) := by decide +kernel
theorem dX2_isLetter_3 : decode cX2_isLetter 3 = .ok (.if_icmp .lt 13, 3) := by decide +kernel
theorem dX2_isLetter_6 : decode cX2_isLetter 6 = .ok (.iload_n 0, 1) := by decide +kernel
theorem dX2_isLetter_7 : decode cX2_isLetter 7 = .ok (.bipush 122, 2) := by decide +kernel
theorem dX2_isLetter_9 : decode cX2_isLetter 9 = .ok (.if_icmp .gt 7, 3) := by decide +kernel
theorem dX2_isLetter_12 : decode cX2_isLetter 12 = .ok (.iconst 1, 1) := by decide +kernel
theorem dX2_isLetter_13 : decode cX2_isLetter 13 = .ok (.goto 4, 3) := by decide +kernel
theorem dX2_isLetter_16 : decode cX2_isLetter 16 = .ok (.iconst 0, 1) := by decide +kernel
theorem dX2_isLetter_17 : decode cX2_isLetter 17 = .ok (.ireturn, 1) := by decide +kernel
theorem dX2_isDigit_0 : decode cX2_isDigit 0 = .ok (.iload_n 0, 1) := by decide +kernel
theorem dX2_isDigit_1 : decode cX2_isDigit 1 = .ok (.bipush 48, 2) := by decide +kernel
theorem dX2_isDigit_3 : decode cX2_isDigit 3 = .ok (.if_icmp .lt 13, 3) := by decide +kernel
theorem dX2_isDigit_6 : decode cX2_isDigit 6 = .ok (.iload_n 0, 1) := by decide +kernel
theorem dX2_isDigit_7 : decode cX2_isDigit 7 = .ok (.bipush 57, 2) := by decide +kernel
theorem dX2_isDigit_9 : decode cX2_isDigit 9 = .ok (.if_icmp .gt 7, 3) := by decide +kernel
theorem dX2_isDigit_12 : decode cX2_isDigit 12 = .ok (.iconst 1, 1) := by decide +kernel
theorem dX2_isDigit_13 : decode cX2_isDigit 13 = .ok (.goto 4, 3) := by decide +kernel
theorem dX2_isDigit_16 : decode cX2_isDigit 16 = .ok (.iconst 0, 1) := by decide +kernel
theorem dX2_isDigit_17 : decode cX2_isDigit 17 = .ok (.ireturn, 1) := by decide +kernel
theorem dX3_init_0 : decode cX3_init 0 = .ok (.aload_n 0, 1) := by decide +kernel
theorem dX3_init_1 : decode cX3_init 1 = .ok (.invokespecial 1, 3) := by decide +kernel
theorem dX3_init_4 : decode cX3_init 4 = .ok (.aload_n 0, 1) := by decide +kernel
theorem dX3_init_5 : decode cX3_init 5 = .ok (.bipush 40, 2) := by decide +kernel
theorem dX3_init_7 : decode cX3_init 7 = .ok (.newarray .long, 2) := by decide +kernel
theorem dX3_init_9 : decode cX3_init 9 = .ok (.putfield 9, 3) := by decide +kernel
theorem dX3_init_12 : decode cX3_init 12 = .ok (.return_, 1) := by decide +kernel
theorem dX3_isMissing_0 : decode cX3_isMissing 0 = .ok (.aload_n 0, 1) := by decide +kernel
theorem dX3_isMissing_1 : decode cX3_isMissing 1 = .ok (.getfield 13, 3) := by decide +kernel
theorem dX3_isMissing_4 : decode cX3_isMissing 4 = .ok (.ifCond .ne 7, 3) := by decide +kernel
theorem dX3_isMissing_7 : decode cX3_isMissing 7 = .ok (.iconst 1, 1) := by decide +kernel
theorem dX3_isMissing_8 : decode cX3_isMissing 8 = .ok (.goto 4, 3) := by decide +kernel
theorem dX3_isMissing_11 : decode cX3_isMissing 11 = .ok (.iconst 0, 1) := by decide +kernel
theorem dX3_isMissing_12 : decode cX3_isMissing 12 = .ok (.ireturn, 1) := by decide +kernel
theorem dX3_begin_0 : decode cX3_begin 0 = .ok (.aload_n 0, 1) := by decide +kernel
theorem dX3_begin_1 : decode cX3_begin 1 = .ok (.iload_n 1, 1) := by decide +kernel
theorem dX3_begin_2 : decode cX3_begin 2 = .ok (.putfield 13, 3) := by decide +kernel
theorem dX3_begin_5 : decode cX3_begin 5 = .ok (.aload_n 0, 1) := by decide +kernel
theorem dX3_begin_6 : decode cX3_begin 6 = .ok (.iconst 0, 1) := by decide +kernel
theorem dX3_begin_7 : decode cX3_begin 7 = .ok (.bipush 40, 2) := by decide +kernel
theorem dX3_begin_9 : decode cX3_begin 9 = .ok (.iload_n 2, 1) := by decide +kernel
theorem dX3_begin_10 : decode cX3_begin 10 = .ok (.invokestatic 17, 3) := by decide +kernel
theorem dX3_begin_13 : decode cX3_begin 13 = .ok (.invokestatic 23, 3) := by decide +kernel
theorem dX3_begin_16 : decode cX3_begin 16 = .ok (.putfield 26, 3) := by decide +kernel
theorem dX3_begin_19 : decode cX3_begin 19 = .ok (.iconst 0, 1) := by decide +kernel
theorem dX3_begin_20 : decode cX3_begin 20 = .ok (.istore_n 3, 1) := by decide +kernel
theorem dX3_begin_21 : decode cX3_begin 21 = .ok (.iload_n 3, 1) := by decide +kernel
theorem dX3_begin_22 : decode cX3_begin 22 = .ok (.bipush 40, 2) := by decide +kernel
theorem dX3_begin_24 : decode cX3_begin 24 = .ok (.if_icmp .ge 16, 3) := by decide +kernel
theorem dX3_begin_27 : decode cX3_begin 27 = .ok (.aload_n 0, 1) := by decide +kernel
theorem dX3_begin_28 : decode cX3_begin 28 = .ok (.getfield 9, 3) := by decide +kernel
theorem dX3_begin_31 : decode cX3_begin 31 = .ok (.iload_n 3, 1) := by decide +kernel
theorem dX3_begin_32 : decode cX3_begin 32 = .ok (.lconst 0, 1) := by decide +kernel
theorem dX3_begin_33 : decode cX3_begin 33 = .ok (.lastore, 1) := by decide +kernel
theorem dX3_begin_34 : decode cX3_begin 34 = .ok (.iinc 3 1, 3) := by decide +kernel
theorem dX3_begin_37 : decode cX3_begin 37 = .ok (.goto (-16), 3) := by decide +kernel
theorem dX3_begin_40 : decode cX3_begin 40 = .ok (.return_, 1) := by decide +kernel
set_option maxRecDepth 20000 in
theorem ggX3_put_X3_narrowed : GoodIn wsX3_put wsX3_narrowed := goodIn_r _ [7, 8, 9, 10, 11] (by decide +kernel) (by decide +kernel)
set_option maxRecDepth 20000 in
theorem gX3_put_X3_narrowed : GoodIn wsX3_put (wsV RX3 29 RX3 yX3_narrowed wsX3_narrowed) := goodIn_app (goodIn_of _ (by decide +kernel)) ggX3_put_X3_narrowed
theorem dX3_put_0 : decode cX3_put 0 = .ok (.iload_n 1, 1) := by decide +kernel
theorem dX3_put_1 : decode cX3_put 1 = .ok (.ifCond .lt 22, 3) := by decide +kernel
theorem dX3_put_4 : decode cX3_put 4 = .ok (.iload_n 1, 1) := by decide +kernel
theorem dX3_put_5 : decode cX3_put 5 = .ok (.aload_n 0, 1) := by decide +kernel
theorem dX3_put_6 : decode cX3_put 6 = .ok (.getfield 26, 3) := by decide +kernel
theorem dX3_put_9 : decode cX3_put 9 = .ok (.if_icmp .ge 14, 3) := by decide +kernel
theorem dX3_put_12 : decode cX3_put 12 = .ok (.aload_n 0, 1) := by decide +kernel
theorem dX3_put_13 : decode cX3_put 13 = .ok (.getfield 9, 3) := by decide +kernel
theorem dX3_put_16 : decode cX3_put 16 = .ok (.iload_n 1, 1) := by decide +kernel
theorem dX3_put_17 : decode cX3_put 17 = .ok (.aload_n 0, 1) := by decide +kernel
theorem dX3_put_18 : decode cX3_put 18 = .ok (.lload_n 2, 1) := by decide +kernel
theorem dX3_put_19 : decode cX3_put 19 = .ok (.invokevirtual 29, 3) := by decide +kernel
theorem dX3_put_22 : decode cX3_put 22 = .ok (.lastore, 1) := by decide +kernel
theorem dX3_put_23 : decode cX3_put 23 = .ok (.return_, 1) := by decide +kernel
theorem dX3_hasSpan_0 : decode cX3_hasSpan 0 = .ok (.iload_n 1, 1) := by decide +kernel
theorem dX3_hasSpan_1 : decode cX3_hasSpan 1 = .ok (.ifCond .lt 29, 3) := by decide +kernel
theorem dX3_hasSpan_4 : decode cX3_hasSpan 4 = .ok (.iload_n 2, 1) := by decide +kernel
theorem dX3_hasSpan_5 : decode cX3_hasSpan 5 = .ok (.ifCond .lt 25, 3) := by decide +kernel
theorem dX3_hasSpan_8 : decode cX3_hasSpan 8 = .ok (.iload_n 2, 1) := by decide +kernel
theorem dX3_hasSpan_9 : decode cX3_hasSpan 9 = .ok (.aload_n 0, 1) := by decide +kernel
theorem dX3_hasSpan_10 : decode cX3_hasSpan 10 = .ok (.getfield 26, 3) := by decide +kernel
theorem dX3_hasSpan_13 : decode cX3_hasSpan 13 = .ok (.if_icmp .gt 17, 3) := by decide +kernel
theorem dX3_hasSpan_16 : decode cX3_hasSpan 16 = .ok (.iload_n 1, 1) := by decide +kernel
theorem dX3_hasSpan_17 : decode cX3_hasSpan 17 = .ok (.aload_n 0, 1) := by decide +kernel
theorem dX3_hasSpan_18 : decode cX3_hasSpan 18 = .ok (.getfield 26, 3) := by decide +kernel
theorem dX3_hasSpan_21 : decode cX3_hasSpan 21 = .ok (.iload_n 2, 1) := by decide +kernel
theorem dX3_hasSpan_22 : decode cX3_hasSpan 22 = .ok (.isub, 1) := by decide +kernel
theorem dX3_hasSpan_23 : decode cX3_hasSpan 23 = .ok (.if_icmp .gt 7, 3) := by decide +kernel
theorem dX3_hasSpan_26 : decode cX3_hasSpan 26 = .ok (.iconst 1, 1) := by decide +kernel
theorem dX3_hasSpan_27 : decode cX3_hasSpan 27 = .ok (.goto 4, 3) := by decide +kernel
theorem dX3_hasSpan_30 : decode cX3_hasSpan 30 = .ok (.iconst 0, 1) := by decide +kernel
theorem dX3_hasSpan_31 : decode cX3_hasSpan 31 = .ok (.ireturn, 1) := by decide +kernel
theorem dX3_narrowed_0 : decode cX3_narrowed 0 = .ok (.aload_n 0, 1) := by decide +kernel
theorem dX3_narrowed_1 : decode cX3_narrowed 1 = .ok (.getfield 13, 3) := by decide +kernel
theorem dX3_narrowed_4 : decode cX3_narrowed 4 = .ok (.lookupswitch 38 #[(8, 28), (16, 33)], 28) := by decide +kernel
theorem dX3_narrowed_32 : decode cX3_narrowed 32 = .ok (.lload_n 1, 1) := by decide +kernel
theorem dX3_narrowed_33 : decode cX3_narrowed 33 = .ok (.l2i, 1) := by decide +kernel
theorem dX3_narrowed_34 : decode cX3_narrowed 34 = .ok (.i2b, 1) := by decide +kernel
theorem dX3_narrowed_35 : decode cX3_narrowed 35 = .ok (.i2l, 1) := by decide +kernel
theorem dX3_narrowed_36 : decode cX3_narrowed 36 = .ok (.lreturn, 1) := by decide +kernel
theorem dX3_narrowed_37 : decode cX3_narrowed 37 = .ok (.lload_n 1, 1) := by decide +kernel
theorem dX3_narrowed_38 : decode cX3_narrowed 38 = .ok (.l2i, 1) := by decide +kernel
theorem dX3_narrowed_39 : decode cX3_narrowed 39 = .ok (.i2s, 1) := by decide +kernel
theorem dX3_narrowed_40 : decode cX3_narrowed 40 = .ok (.i2l, 1) := by decide +kernel
theorem dX3_narrowed_41 : decode cX3_narrowed 41 = .ok (.lreturn, 1) := by decide +kernel
theorem dX3_narrowed_42 : decode cX3_narrowed 42 = .ok (.lload_n 1, 1) := by decide +kernel
theorem dX3_narrowed_43 : decode cX3_narrowed 43 = .ok (.lreturn, 1) := by decide +kernel
theorem dX4_init_0 : decode cX4_init 0 = .ok (.aload_n 0, 1) := by decide +kernel
theorem dX4_init_1 : decode cX4_init 1 = .ok (.invokespecial 1, 3) := by decide +kernel
theorem dX4_init_4 : decode cX4_init 4 = .ok (.aload_n 0, 1) := by decide +kernel
theorem dX4_init_5 : decode cX4_init 5 = .ok (.bipush 120, 2) := by decide +kernel
theorem dX4_init_7 : decode cX4_init 7 = .ok (.newarray .byte, 2) := by decide +kernel
theorem dX4_init_9 : decode cX4_init 9 = .ok (.putfield 9, 3) := by decide +kernel
theorem dX4_init_12 : decode cX4_init 12 = .ok (.return_, 1) := by decide +kernel
theorem dX4_append_0 : decode cX4_append 0 = .ok (.aload_n 0, 1) := by decide +kernel
theorem dX4_append_1 : decode cX4_append 1 = .ok (.getfield 13, 3) := by decide +kernel
theorem dX4_append_4 : decode cX4_append 4 = .ok (.bipush 120, 2) := by decide +kernel
theorem dX4_append_6 : decode cX4_append 6 = .ok (.if_icmp .ge 23, 3) := by decide +kernel
theorem dX4_append_9 : decode cX4_append 9 = .ok (.aload_n 0, 1) := by decide +kernel
theorem dX4_append_10 : decode cX4_append 10 = .ok (.getfield 9, 3) := by decide +kernel
theorem dX4_append_13 : decode cX4_append 13 = .ok (.aload_n 0, 1) := by decide +kernel
theorem dX4_append_14 : decode cX4_append 14 = .ok (.getfield 13, 3) := by decide +kernel
theorem dX4_append_17 : decode cX4_append 17 = .ok (.iload_n 1, 1) := by decide +kernel
theorem dX4_append_18 : decode cX4_append 18 = .ok (.bastore, 1) := by decide +kernel
theorem dX4_append_19 : decode cX4_append 19 = .ok (.aload_n 0, 1) := by decide +kernel
theorem dX4_append_20 : decode cX4_append 20 = .ok (.dup, 1) := by decide +kernel
theorem dX4_append_21 : decode cX4_append 21 = .ok (.getfield 13, 3) := by decide +kernel
theorem dX4_append_24 : decode cX4_append 24 = .ok (.iconst 1, 1) := by decide +kernel
theorem dX4_append_25 : decode cX4_append 25 = .ok (.iadd, 1) := by decide +kernel
theorem dX4_append_26 : decode cX4_append 26 = .ok (.putfield 13, 3) := by decide +kernel
theorem dX4_append_29 : decode cX4_append 29 = .ok (.return_, 1) := by decide +kernel
theorem dX4_at_0 : decode cX4_at 0 = .ok (.iload_n 1, 1) := by decide +kernel
theorem dX4_at_1 : decode cX4_at 1 = .ok (.ifCond .lt 20, 3) := by decide +kernel
theorem dX4_at_4 : decode cX4_at 4 = .ok (.iload_n 1, 1) := by decide +kernel
theorem dX4_at_5 : decode cX4_at 5 = .ok (.aload_n 0, 1) := by decide +kernel
theorem dX4_at_6 : decode cX4_at 6 = .ok (.getfield 13, 3) := by decide +kernel
theorem dX4_at_9 : decode cX4_at 9 = .ok (.if_icmp .ge 12, 3) := by decide +kernel
theorem dX4_at_12 : decode cX4_at 12 = .ok (.aload_n 0, 1) := by decide +kernel
theorem dX4_at_13 : decode cX4_at 13 = .ok (.getfield 9, 3) := by decide +kernel
theorem dX4_at_16 : decode cX4_at 16 = .ok (.iload_n 1, 1) := by decide +kernel
theorem dX4_at_17 : decode cX4_at 17 = .ok (.baload, 1) := by decide +kernel
theorem dX4_at_18 : decode cX4_at 18 = .ok (.goto 4, 3) := by decide +kernel
theorem dX4_at_21 : decode cX4_at 21 = .ok (.iconst 0, 1) := by decide +kernel
theorem dX4_at_22 : decode cX4_at 22 = .ok (.ireturn, 1) := by decide +kernel
set_option maxRecDepth 20000 in
theorem ggX5_init_X1_init : GoodIn wsX5_init wsX1_init := goodIn_r _ [27, 28, 2, 3, 23, 29, 30, 31, 32, 33, 34, 50, 51, 52, 53, 54, 55, 56, 57, 58, 59] (by decide +kernel) (by decide +kernel)
set_option maxRecDepth 20000 in
theorem gX5_init_X1_init : GoodIn wsX5_init (wsX1_init) := ggX5_init_X1_init
set_option maxRecDepth 20000 in
theorem ggX5_init_X4_init : GoodIn wsX5_init wsX4_init := goodIn_r _ [36, 37, 2, 3, 38, 39, 68, 69] (by decide +kernel) (by decide +kernel)
set_option maxRecDepth 20000 in
theorem gX5_init_X4_init_n28 : GoodIn wsX5_init (wsX4_init) := ggX5_init_X4_init
set_option maxRecDepth 20000 in
theorem ggX5_init_X2_init : GoodIn wsX5_init wsX2_init := goodIn_r _ [42, 43, 2, 3, 44, 70, 71, 72, 73, 74] (by decide +kernel) (by decide +kernel)
set_option maxRecDepth 20000 in
theorem gX5_init_X2_init : GoodIn wsX5_init (wsX2_init) := ggX5_init_X2_init
set_option maxRecDepth 20000 in
theorem ggX5_init_X3_init : GoodIn wsX5_init wsX3_init := goodIn_r _ [46, 47, 2, 3, 48, 49, 75, 76, 77] (by decide +kernel) (by decide +kernel)
set_option maxRecDepth 20000 in
theorem gX5_init_X3_init_n48 : GoodIn wsX5_init (wsX3_init) := ggX5_init_X3_init
theorem dX5_init_0 : decode cX5_init 0 = .ok (.aload_n 0, 1) := by decide +kernel
theorem dX5_init_1 : decode cX5_init 1 = .ok (.invokespecial 1, 3) := by decide +kernel
theorem dX5_init_4 : decode cX5_init 4 = .ok (.aload_n 0, 1) := by decide +kernel
theorem dX5_init_5 : decode cX5_init 5 = .ok (.new 7, 3) := by decide +kernel
theorem dX5_init_8 : decode cX5_init 8 = .ok (.dup, 1) := by decide +kernel
theorem dX5_init_9 : decode cX5_init 9 = .ok (.invokespecial 9, 3) := by decide +kernel
theorem dX5_init_12 : decode cX5_init 12 = .ok (.putfield 10, 3) := by decide +kernel
theorem dX5_init_15 : decode cX5_init 15 = .ok (.aload_n 0, 1) := by decide +kernel
theorem dX5_init_16 : decode cX5_init 16 = .ok (.new 7, 3) := by decide +kernel
theorem dX5_init_19 : decode cX5_init 19 = .ok (.dup, 1) := by decide +kernel
theorem dX5_init_20 : decode cX5_init 20 = .ok (.invokespecial 9, 3) := by decide +kernel
theorem dX5_init_23 : decode cX5_init 23 = .ok (.putfield 16, 3) := by decide +kernel
theorem dX5_init_26 : decode cX5_init 26 = .ok (.aload_n 0, 1) := by decide +kernel
theorem dX5_init_27 : decode cX5_init 27 = .ok (.new 7, 3) := by decide +kernel
theorem dX5_init_30 : decode cX5_init 30 = .ok (.dup, 1) := by decide +kernel
theorem dX5_init_31 : decode cX5_init 31 = .ok (.invokespecial 9, 3) := by decide +kernel
theorem dX5_init_34 : decode cX5_init 34 = .ok (.putfield 19, 3) := by decide +kernel
theorem dX5_init_37 : decode cX5_init 37 = .ok (.aload_n 0, 1) := by decide +kernel
theorem dX5_init_38 : decode cX5_init 38 = .ok (.iconst 0, 1) := by decide +kernel
theorem dX5_init_39 : decode cX5_init 39 = .ok (.putfield 22, 3) := by decide +kernel
theorem dX5_init_42 : decode cX5_init 42 = .ok (.aload_n 0, 1) := by decide +kernel
theorem dX5_init_43 : decode cX5_init 43 = .ok (.new 26, 3) := by decide +kernel
theorem dX5_init_46 : decode cX5_init 46 = .ok (.dup, 1) := by decide +kernel
theorem dX5_init_47 : decode cX5_init 47 = .ok (.invokespecial 28, 3) := by decide +kernel
theorem dX5_init_50 : decode cX5_init 50 = .ok (.putfield 29, 3) := by decide +kernel
theorem dX5_init_53 : decode cX5_init 53 = .ok (.aload_n 0, 1) := by decide +kernel
theorem dX5_init_54 : decode cX5_init 54 = .ok (.new 33, 3) := by decide +kernel
theorem dX5_init_57 : decode cX5_init 57 = .ok (.dup, 1) := by decide +kernel
theorem dX5_init_58 : decode cX5_init 58 = .ok (.aload_n 0, 1) := by decide +kernel
theorem dX5_init_59 : decode cX5_init 59 = .ok (.getfield 29, 3) := by decide +kernel
theorem dX5_init_62 : decode cX5_init 62 = .ok (.invokespecial 35, 3) := by decide +kernel
theorem dX5_init_65 : decode cX5_init 65 = .ok (.putfield 38, 3) := by decide +kernel
theorem dX5_init_68 : decode cX5_init 68 = .ok (.aload_n 0, 1) := by decide +kernel
theorem dX5_init_69 : decode cX5_init 69 = .ok (.iconst 4, 1) := by decide +kernel
theorem dX5_init_70 : decode cX5_init 70 = .ok (.anewarray 42, 3) := by decide +kernel
theorem dX5_init_73 : decode cX5_init 73 = .ok (.putfield 44, 3) := by decide +kernel
theorem dX5_init_76 : decode cX5_init 76 = .ok (.iconst 0, 1) := by decide +kernel
theorem dX5_init_77 : decode cX5_init 77 = .ok (.istore_n 1, 1) := by decide +kernel
theorem dX5_init_78 : decode cX5_init 78 = .ok (.iload_n 1, 1) := by decide +kernel
theorem dX5_init_79 : decode cX5_init 79 = .ok (.iconst 4, 1) := by decide +kernel
theorem dX5_init_80 : decode cX5_init 80 = .ok (.if_icmp .ge 22, 3) := by decide +kernel
theorem dX5_init_83 : decode cX5_init 83 = .ok (.aload_n 0, 1) := by decide +kernel
theorem dX5_init_84 : decode cX5_init 84 = .ok (.getfield 44, 3) := by decide +kernel
theorem dX5_init_87 : decode cX5_init 87 = .ok (.iload_n 1, 1) := by decide +kernel
theorem dX5_init_88 : decode cX5_init 88 = .ok (.new 42, 3) := by decide +kernel
theorem dX5_init_91 : decode cX5_init 91 = .ok (.dup, 1) := by decide +kernel
theorem dX5_init_92 : decode cX5_init 92 = .ok (.invokespecial 48, 3) := by decide +kernel
theorem dX5_init_95 : decode cX5_init 95 = .ok (.aastore, 1) := by decide +kernel
theorem dX5_init_96 : decode cX5_init 96 = .ok (.iinc 1 1, 3) := by decide +kernel
theorem dX5_init_99 : decode cX5_init 99 = .ok (.goto (-21), 3) := by decide +kernel
theorem dX5_init_102 : decode cX5_init 102 = .ok (.aload_n 0, 1) := by decide +kernel
theorem dX5_init_103 : decode cX5_init 103 = .ok (.bipush 7, 2) := by decide +kernel
theorem dX5_init_105 : decode cX5_init 105 = .ok (.newarray .int, 2) := by decide +kernel
theorem dX5_init_107 : decode cX5_init 107 = .ok (.putfield 49, 3) := by decide +kernel
theorem dX5_init_110 : decode cX5_init 110 = .ok (.return_, 1) := by decide +kernel
set_option maxRecDepth 20000 in
theorem ggX5_weary_X5_inside : GoodIn wsX5_weary wsX5_inside := goodIn_r _ [7] (by decide +kernel) (by decide +kernel)
set_option maxRecDepth 20000 in
theorem gX5_weary_X5_inside : GoodIn wsX5_weary (va_wsS RX5 53 yX5_inside wsX5_inside) := goodIn_app (goodIn_of _ (by decide +kernel)) ggX5_weary_X5_inside
set_option maxRecDepth 20000 in
theorem ggX5_weary_X5_finding : GoodIn wsX5_weary wsX5_finding := goodIn_r _ [11, 1, 12, 13, 14, 15, 16, 17, 18, 19, 20] (by decide +kernel) (by decide +kernel)
set_option maxRecDepth 20000 in
theorem gX5_weary_X5_finding : GoodIn wsX5_weary (wsV RX5 58 RX5 yX5_finding wsX5_finding) := goodIn_app (goodIn_of _ (by decide +kernel)) ggX5_weary_X5_finding
theorem dX5_weary_0 : decode cX5_weary 0 = .ok (.iload_n 1, 1) := by decide +kernel
theorem dX5_weary_1 : decode cX5_weary 1 = .ok (.iconst 0, 1) := by decide +kernel
theorem dX5_weary_2 : decode cX5_weary 2 = .ok (.bipush 99, 2) := by decide +kernel
theorem dX5_weary_4 : decode cX5_weary 4 = .ok (.invokestatic 53, 3) := by decide +kernel
theorem dX5_weary_7 : decode cX5_weary 7 = .ok (.ifCond .ne 10, 3) := by decide +kernel
theorem dX5_weary_10 : decode cX5_weary 10 = .ok (.aload_n 0, 1) := by decide +kernel
theorem dX5_weary_11 : decode cX5_weary 11 = .ok (.ldc 57, 2) := by decide +kernel
theorem dX5_weary_13 : decode cX5_weary 13 = .ok (.invokevirtual 58, 3) := by decide +kernel
theorem dX5_weary_16 : decode cX5_weary 16 = .ok (.ireturn, 1) := by decide +kernel
theorem dX5_weary_17 : decode cX5_weary 17 = .ok (.aload_n 0, 1) := by decide +kernel
theorem dX5_weary_18 : decode cX5_weary 18 = .ok (.getfield 10, 3) := by decide +kernel
theorem dX5_weary_21 : decode cX5_weary 21 = .ok (.getfield 62, 3) := by decide +kernel
theorem dX5_weary_24 : decode cX5_weary 24 = .ok (.istore_n 2, 1) := by decide +kernel
theorem dX5_weary_25 : decode cX5_weary 25 = .ok (.aload_n 0, 1) := by decide +kernel
theorem dX5_weary_26 : decode cX5_weary 26 = .ok (.getfield 10, 3) := by decide +kernel
theorem dX5_weary_29 : decode cX5_weary 29 = .ok (.iload_n 1, 1) := by decide +kernel
theorem dX5_weary_30 : decode cX5_weary 30 = .ok (.putfield 62, 3) := by decide +kernel
theorem dX5_weary_33 : decode cX5_weary 33 = .ok (.iload_n 2, 1) := by decide +kernel
theorem dX5_weary_34 : decode cX5_weary 34 = .ok (.ireturn, 1) := by decide +kernel
set_option maxRecDepth 20000 in
theorem ggX5_free_X5_inside : GoodIn wsX5_free wsX5_inside := goodIn_r _ [7] (by decide +kernel) (by decide +kernel)
set_option maxRecDepth 20000 in
theorem gX5_free_X5_inside : GoodIn wsX5_free (va_wsS RX5 53 yX5_inside wsX5_inside) := goodIn_app (goodIn_of _ (by decide +kernel)) ggX5_free_X5_inside
set_option maxRecDepth 20000 in
theorem ggX5_free_X5_finding : GoodIn wsX5_free wsX5_finding := goodIn_r _ [11, 1, 12, 13, 14, 15, 16, 17, 18, 19, 20] (by decide +kernel) (by decide +kernel)
set_option maxRecDepth 20000 in
theorem gX5_free_X5_finding : GoodIn wsX5_free (wsV RX5 58 RX5 yX5_finding wsX5_finding) := goodIn_app (goodIn_of _ (by decide +kernel)) ggX5_free_X5_finding
theorem dX5_free_0 : decode cX5_free 0 = .ok (.iload_n 1, 1) := by decide +kernel
theorem dX5_free_1 : decode cX5_free 1 = .ok (.iconst 0, 1) := by decide +kernel
theorem dX5_free_2 : decode cX5_free 2 = .ok (.bipush 6, 2) := by decide +kernel
theorem dX5_free_4 : decode cX5_free 4 = .ok (.invokestatic 53, 3) := by decide +kernel
theorem dX5_free_7 : decode cX5_free 7 = .ok (.ifCond .eq 12, 3) := by decide +kernel
theorem dX5_free_10 : decode cX5_free 10 = .ok (.iload_n 2, 1) := by decide +kernel
theorem dX5_free_11 : decode cX5_free 11 = .ok (.iconst 0, 1) := by decide +kernel
theorem dX5_free_12 : decode cX5_free 12 = .ok (.iconst 1, 1) := by decide +kernel
theorem dX5_free_13 : decode cX5_free 13 = .ok (.invokestatic 53, 3) := by decide +kernel
theorem dX5_free_16 : decode cX5_free 16 = .ok (.ifCond .ne 10, 3) := by decide +kernel
theorem dX5_free_19 : decode cX5_free 19 = .ok (.aload_n 0, 1) := by decide +kernel
theorem dX5_free_20 : decode cX5_free 20 = .ok (.ldc 57, 2) := by decide +kernel
theorem dX5_free_22 : decode cX5_free 22 = .ok (.invokevirtual 58, 3) := by decide +kernel
theorem dX5_free_25 : decode cX5_free 25 = .ok (.ireturn, 1) := by decide +kernel
theorem dX5_free_26 : decode cX5_free 26 = .ok (.aload_n 0, 1) := by decide +kernel
theorem dX5_free_27 : decode cX5_free 27 = .ok (.getfield 10, 3) := by decide +kernel
theorem dX5_free_30 : decode cX5_free 30 = .ok (.getfield 66, 3) := by decide +kernel
theorem dX5_free_33 : decode cX5_free 33 = .ok (.iload_n 1, 1) := by decide +kernel
theorem dX5_free_34 : decode cX5_free 34 = .ok (.iaload, 1) := by decide +kernel
theorem dX5_free_35 : decode cX5_free 35 = .ok (.istore_n 3, 1) := by decide +kernel
theorem dX5_free_36 : decode cX5_free 36 = .ok (.aload_n 0, 1) := by decide +kernel
theorem dX5_free_37 : decode cX5_free 37 = .ok (.getfield 10, 3) := by decide +kernel
theorem dX5_free_40 : decode cX5_free 40 = .ok (.getfield 66, 3) := by decide +kernel
theorem dX5_free_43 : decode cX5_free 43 = .ok (.iload_n 1, 1) := by decide +kernel
theorem dX5_free_44 : decode cX5_free 44 = .ok (.iload_n 2, 1) := by decide +kernel
theorem dX5_free_45 : decode cX5_free 45 = .ok (.iastore, 1) := by decide +kernel
theorem dX5_free_46 : decode cX5_free 46 = .ok (.iload_n 3, 1) := by decide +kernel
theorem dX5_free_47 : decode cX5_free 47 = .ok (.ireturn, 1) := by decide +kernel
set_option maxRecDepth 20000 in
theorem ggX5_now_X1_isHoliday : GoodIn wsX5_now wsX1_isHoliday := goodIn_r _ [10, 11, 12, 13, 14, 15, 16, 76, 77, 78, 79, 80, 81, 82, 83, 84, 85] (by decide +kernel) (by decide +kernel)
set_option maxRecDepth 20000 in
theorem gX5_now_X1_isHoliday : GoodIn wsX5_now (wsV RX5 72 RX1 yX1_isHoliday wsX1_isHoliday) := goodIn_app (goodIn_of _ (by decide +kernel)) ggX5_now_X1_isHoliday
set_option maxRecDepth 20000 in
theorem ggX5_now_X5_bit : GoodIn wsX5_now wsX5_bit := goodIn_r _ [20] (by decide +kernel) (by decide +kernel)
set_option maxRecDepth 20000 in
theorem gX5_now_X5_bit : GoodIn wsX5_now (va_wsS RX5 76 yX5_bit wsX5_bit) := goodIn_app (goodIn_of _ (by decide +kernel)) ggX5_now_X5_bit
set_option maxRecDepth 20000 in
theorem ggX5_now_X1_loudest : GoodIn wsX5_now wsX1_loudest := goodIn_r _ [24, 25, 26, 27, 28, 29, 9, 30, 31, 32, 33, 34, 35, 36, 37, 38, 39, 40, 41, 42, 43, 44, 45, 12, 46, 47, 48, 49, 50, 51, 52, 53, 54, 76, 77, 78, 79, 80, 81, 82, 83, 84, 85] (by decide +kernel) (by decide +kernel)
set_option maxRecDepth 20000 in
theorem gX5_now_X1_loudest : GoodIn wsX5_now (wsV RX5 83 RX1 yX1_loudest wsX1_loudest) := goodIn_app (goodIn_of _ (by decide +kernel)) ggX5_now_X1_loudest
set_option maxRecDepth 20000 in
theorem ggX5_now_X1_doneSet : GoodIn wsX5_now wsX1_doneSet := goodIn_r _ [58, 25, 31, 32, 33, 9, 34, 35, 36, 37, 38, 39, 40, 41, 76, 77, 78, 79, 80, 81, 82, 83, 84, 85] (by decide +kernel) (by decide +kernel)
set_option maxRecDepth 20000 in
theorem gX5_now_X1_doneSet : GoodIn wsX5_now (wsV RX5 87 RX1 yX1_doneSet wsX1_doneSet) := goodIn_app (goodIn_of _ (by decide +kernel)) ggX5_now_X1_doneSet
set_option maxRecDepth 20000 in
theorem ggX5_now_X1_behindhandSet : GoodIn wsX5_now wsX1_behindhandSet := goodIn_r _ [62, 25, 12, 46, 31, 32, 33, 9, 34, 35, 36, 37, 38, 39, 40, 41, 76, 77, 78, 79, 80, 81, 82, 83, 84, 85] (by decide +kernel) (by decide +kernel)
set_option maxRecDepth 20000 in
theorem gX5_now_X1_behindhandSet : GoodIn wsX5_now (wsV RX5 90 RX1 yX1_behindhandSet wsX1_behindhandSet) := goodIn_app (goodIn_of _ (by decide +kernel)) ggX5_now_X1_behindhandSet
set_option maxRecDepth 20000 in
theorem ggX5_now_X5_finding : GoodIn wsX5_now wsX5_finding := goodIn_r _ [66, 5, 67, 68, 69, 70, 71, 72, 73, 74, 75] (by decide +kernel) (by decide +kernel)
set_option maxRecDepth 20000 in
theorem gX5_now_X5_finding : GoodIn wsX5_now (wsV RX5 58 RX5 yX5_finding wsX5_finding) := goodIn_app (goodIn_of _ (by decide +kernel)) ggX5_now_X5_finding
