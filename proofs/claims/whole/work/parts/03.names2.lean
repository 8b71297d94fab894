theorem dX0_init_0 : decode cX0_init 0 = .ok (.aload_n 0, 1) := by decide +kernel
theorem dX0_init_1 : decode cX0_init 1 = .ok (.invokespecial 3, 3) := by decide +kernel
theorem dX0_init_4 : decode cX0_init 4 = .ok (.aload_n 0, 1) := by decide +kernel
theorem dX0_init_5 : decode cX0_init 5 = .ok (.bipush 6, 2) := by decide +kernel
theorem dX0_init_7 : decode cX0_init 7 = .ok (.newarray .int, 2) := by decide +kernel
theorem dX0_init_9 : decode cX0_init 9 = .ok (.putfield 9, 3) := by decide +kernel
theorem dX0_init_12 : decode cX0_init 12 = .ok (.aload_n 0, 1) := by decide +kernel
theorem dX0_init_13 : decode cX0_init 13 = .ok (.bipush 6, 2) := by decide +kernel
theorem dX0_init_15 : decode cX0_init 15 = .ok (.newarray .int, 2) := by decide +kernel
theorem dX0_init_17 : decode cX0_init 17 = .ok (.putfield 15, 3) := by decide +kernel
theorem dX0_init_20 : decode cX0_init 20 = .ok (.aload_n 0, 1) := by decide +kernel
theorem dX0_init_21 : decode cX0_init 21 = .ok (.bipush 6, 2) := by decide +kernel
theorem dX0_init_23 : decode cX0_init 23 = .ok (.newarray .int, 2) := by decide +kernel
theorem dX0_init_25 : decode cX0_init 25 = .ok (.putfield 18, 3) := by decide +kernel
theorem dX0_init_28 : decode cX0_init 28 = .ok (.aload_n 0, 1) := by decide +kernel
theorem dX0_init_29 : decode cX0_init 29 = .ok (.bipush 6, 2) := by decide +kernel
theorem dX0_init_31 : decode cX0_init 31 = .ok (.newarray .int, 2) := by decide +kernel
theorem dX0_init_33 : decode cX0_init 33 = .ok (.putfield 21, 3) := by decide +kernel
theorem dX0_init_36 : decode cX0_init 36 = .ok (.aload_n 0, 1) := by decide +kernel
theorem dX0_init_37 : decode cX0_init 37 = .ok (.bipush 6, 2) := by decide +kernel
theorem dX0_init_39 : decode cX0_init 39 = .ok (.newarray .int, 2) := by decide +kernel
theorem dX0_init_41 : decode cX0_init 41 = .ok (.putfield 24, 3) := by decide +kernel
theorem dX0_init_44 : decode cX0_init 44 = .ok (.return_, 1) := by decide +kernel
theorem dX0_add_0 : decode cX0_add 0 = .ok (.aload_n 0, 1) := by decide +kernel
theorem dX0_add_1 : decode cX0_add 1 = .ok (.getfield 9, 3) := by decide +kernel
theorem dX0_add_4 : decode cX0_add 4 = .ok (.aload_n 0, 1) := by decide +kernel
theorem dX0_add_5 : decode cX0_add 5 = .ok (.getfield 27, 3) := by decide +kernel
theorem dX0_add_8 : decode cX0_add 8 = .ok (.iload_n 1, 1) := by decide +kernel
theorem dX0_add_9 : decode cX0_add 9 = .ok (.iastore, 1) := by decide +kernel
theorem dX0_add_10 : decode cX0_add 10 = .ok (.aload_n 0, 1) := by decide +kernel
theorem dX0_add_11 : decode cX0_add 11 = .ok (.getfield 15, 3) := by decide +kernel
theorem dX0_add_14 : decode cX0_add 14 = .ok (.aload_n 0, 1) := by decide +kernel
theorem dX0_add_15 : decode cX0_add 15 = .ok (.getfield 27, 3) := by decide +kernel
theorem dX0_add_18 : decode cX0_add 18 = .ok (.iload_n 2, 1) := by decide +kernel
theorem dX0_add_19 : decode cX0_add 19 = .ok (.iastore, 1) := by decide +kernel
theorem dX0_add_20 : decode cX0_add 20 = .ok (.aload_n 0, 1) := by decide +kernel
theorem dX0_add_21 : decode cX0_add 21 = .ok (.getfield 18, 3) := by decide +kernel
theorem dX0_add_24 : decode cX0_add 24 = .ok (.aload_n 0, 1) := by decide +kernel
theorem dX0_add_25 : decode cX0_add 25 = .ok (.getfield 27, 3) := by decide +kernel
theorem dX0_add_28 : decode cX0_add 28 = .ok (.iload_n 3, 1) := by decide +kernel
theorem dX0_add_29 : decode cX0_add 29 = .ok (.iastore, 1) := by decide +kernel
theorem dX0_add_30 : decode cX0_add 30 = .ok (.aload_n 0, 1) := by decide +kernel
theorem dX0_add_31 : decode cX0_add 31 = .ok (.getfield 21, 3) := by decide +kernel
theorem dX0_add_34 : decode cX0_add 34 = .ok (.aload_n 0, 1) := by decide +kernel
theorem dX0_add_35 : decode cX0_add 35 = .ok (.getfield 27, 3) := by decide +kernel
theorem dX0_add_38 : decode cX0_add 38 = .ok (.iload 4, 2) := by decide +kernel
theorem dX0_add_40 : decode cX0_add 40 = .ok (.iastore, 1) := by decide +kernel
theorem dX0_add_41 : decode cX0_add 41 = .ok (.aload_n 0, 1) := by decide +kernel
theorem dX0_add_42 : decode cX0_add 42 = .ok (.getfield 24, 3) := by decide +kernel
theorem dX0_add_45 : decode cX0_add 45 = .ok (.aload_n 0, 1) := by decide +kernel
theorem dX0_add_46 : decode cX0_add 46 = .ok (.getfield 27, 3) := by decide +kernel
theorem dX0_add_49 : decode cX0_add 49 = .ok (.iload 5, 2) := by decide +kernel
theorem dX0_add_51 : decode cX0_add 51 = .ok (.iastore, 1) := by decide +kernel
theorem dX0_add_52 : decode cX0_add 52 = .ok (.aload_n 0, 1) := by decide +kernel
theorem dX0_add_53 : decode cX0_add 53 = .ok (.dup, 1) := by decide +kernel
theorem dX0_add_54 : decode cX0_add 54 = .ok (.getfield 27, 3) := by decide +kernel
theorem dX0_add_57 : decode cX0_add 57 = .ok (.dup_x1, 1) := by decide +kernel
theorem dX0_add_58 : decode cX0_add 58 = .ok (.iconst 1, 1) := by decide +kernel
theorem dX0_add_59 : decode cX0_add 59 = .ok (.iadd, 1) := by decide +kernel
theorem dX0_add_60 : decode cX0_add 60 = .ok (.putfield 27, 3) := by decide +kernel
theorem dX0_add_63 : decode cX0_add 63 = .ok (.ireturn, 1) := by decide +kernel
theorem dX0_become_0 : decode cX0_become 0 = .ok (.aload_n 1, 1) := by decide +kernel
theorem dX0_become_1 : decode cX0_become 1 = .ok (.getfield 9, 3) := by decide +kernel
theorem dX0_become_4 : decode cX0_become 4 = .ok (.iconst 0, 1) := by decide +kernel
theorem dX0_become_5 : decode cX0_become 5 = .ok (.aload_n 0, 1) := by decide +kernel
theorem dX0_become_6 : decode cX0_become 6 = .ok (.getfield 9, 3) := by decide +kernel
theorem dX0_become_9 : decode cX0_become 9 = .ok (.iconst 0, 1) := by decide +kernel
theorem dX0_become_10 : decode cX0_become 10 = .ok (.bipush 6, 2) := by decide +kernel
theorem dX0_become_12 : decode cX0_become 12 = .ok (.invokestatic 31, 3) := by decide +kernel
theorem dX0_become_15 : decode cX0_become 15 = .ok (.aload_n 1, 1) := by decide +kernel
theorem dX0_become_16 : decode cX0_become 16 = .ok (.getfield 15, 3) := by decide +kernel
theorem dX0_become_19 : decode cX0_become 19 = .ok (.iconst 0, 1) := by decide +kernel
theorem dX0_become_20 : decode cX0_become 20 = .ok (.aload_n 0, 1) := by decide +kernel
theorem dX0_become_21 : decode cX0_become 21 = .ok (.getfield 15, 3) := by decide +kernel
theorem dX0_become_24 : decode cX0_become 24 = .ok (.iconst 0, 1) := by decide +kernel
theorem dX0_become_25 : decode cX0_become 25 = .ok (.bipush 6, 2) := by decide +kernel
theorem dX0_become_27 : decode cX0_become 27 = .ok (.invokestatic 31, 3) := by decide +kernel
theorem dX0_become_30 : decode cX0_become 30 = .ok (.aload_n 1, 1) := by decide +kernel
theorem dX0_become_31 : decode cX0_become 31 = .ok (.getfield 18, 3) := by decide +kernel
theorem dX0_become_34 : decode cX0_become 34 = .ok (.iconst 0, 1) := by decide +kernel
theorem dX0_become_35 : decode cX0_become 35 = .ok (.aload_n 0, 1) := by decide +kernel
theorem dX0_become_36 : decode cX0_become 36 = .ok (.getfield 18, 3) := by decide +kernel
theorem dX0_become_39 : decode cX0_become 39 = .ok (.iconst 0, 1) := by decide +kernel
theorem dX0_become_40 : decode cX0_become 40 = .ok (.bipush 6, 2) := by decide +kernel
theorem dX0_become_42 : decode cX0_become 42 = .ok (.invokestatic 31, 3) := by decide +kernel
theorem dX0_become_45 : decode cX0_become 45 = .ok (.aload_n 1, 1) := by decide +kernel
theorem dX0_become_46 : decode cX0_become 46 = .ok (.getfield 21, 3) := by decide +kernel
theorem dX0_become_49 : decode cX0_become 49 = .ok (.iconst 0, 1) := by decide +kernel
theorem dX0_become_50 : decode cX0_become 50 = .ok (.aload_n 0, 1) := by decide +kernel
theorem dX0_become_51 : decode cX0_become 51 = .ok (.getfield 21, 3) := by decide +kernel
theorem dX0_become_54 : decode cX0_become 54 = .ok (.iconst 0, 1) := by decide +kernel
theorem dX0_become_55 : decode cX0_become 55 = .ok (.bipush 6, 2) := by decide +kernel
theorem dX0_become_57 : decode cX0_become 57 = .ok (.invokestatic 31, 3) := by decide +kernel
theorem dX0_become_60 : decode cX0_become 60 = .ok (.aload_n 1, 1) := by decide +kernel
theorem dX0_become_61 : decode cX0_become 61 = .ok (.getfield 24, 3) := by decide +kernel
theorem dX0_become_64 : decode cX0_become 64 = .ok (.iconst 0, 1) := by decide +kernel
theorem dX0_become_65 : decode cX0_become 65 = .ok (.aload_n 0, 1) := by decide +kernel
theorem dX0_become_66 : decode cX0_become 66 = .ok (.getfield 24, 3) := by decide +kernel
theorem dX0_become_69 : decode cX0_become 69 = .ok (.iconst 0, 1) := by decide +kernel
theorem dX0_become_70 : decode cX0_become 70 = .ok (.bipush 6, 2) := by decide +kernel
theorem dX0_become_72 : decode cX0_become 72 = .ok (.invokestatic 31, 3) := by decide +kernel
theorem dX0_become_75 : decode cX0_become 75 = .ok (.aload_n 0, 1) := by decide +kernel
theorem dX0_become_76 : decode cX0_become 76 = .ok (.aload_n 1, 1) := by decide +kernel
theorem dX0_become_77 : decode cX0_become 77 = .ok (.getfield 27, 3) := by decide +kernel
theorem dX0_become_80 : decode cX0_become 80 = .ok (.putfield 27, 3) := by decide +kernel
theorem dX0_become_83 : decode cX0_become 83 = .ok (.return_, 1) := by decide +kernel
theorem dX1_init_0 : decode cX1_init 0 = .ok (.aload_n 0, 1) := by decide +kernel
theorem dX1_init_1 : decode cX1_init 1 = .ok (.invokespecial 3, 3) := by decide +kernel
theorem dX1_init_4 : decode cX1_init 4 = .ok (.aload_n 0, 1) := by decide +kernel
theorem dX1_init_5 : decode cX1_init 5 = .ok (.bipush 8, 2) := by decide +kernel
theorem dX1_init_7 : decode cX1_init 7 = .ok (.bipush 13, 2) := by decide +kernel
theorem dX1_init_9 : decode cX1_init 9 = .ok (.multianewarray 9 2, 4) := by decide +kernel
theorem dX1_init_13 : decode cX1_init 13 = .ok (.putfield 11, 3) := by decide +kernel
theorem dX1_init_16 : decode cX1_init 16 = .ok (.aload_n 0, 1) := by decide +kernel
theorem dX1_init_17 : decode cX1_init 17 = .ok (.bipush 8, 2) := by decide +kernel
theorem dX1_init_19 : decode cX1_init 19 = .ok (.newarray .int, 2) := by decide +kernel
theorem dX1_init_21 : decode cX1_init 21 = .ok (.putfield 16, 3) := by decide +kernel
theorem dX1_init_24 : decode cX1_init 24 = .ok (.return_, 1) := by decide +kernel
set_option maxRecDepth 20000 in
theorem ggX1_become_X9_figuresEnd : GoodIn wsX1_become wsX9_figuresEnd := goodIn_r _ [10, 11, 12, 13, 14, 9, 15, 16, 17, 18, 19, 20, 40, 41] (by decide +kernel) (by decide +kernel)
set_option maxRecDepth 20000 in
theorem gX1_become_X9_figuresEnd : GoodIn wsX1_become (wsV RX1 29 RX9 yX9_figuresEnd wsX9_figuresEnd) := goodIn_app (goodIn_of _ (by decide +kernel)) ggX1_become_X9_figuresEnd
set_option maxRecDepth 20000 in
theorem ggX1_become_X9_byteAt : GoodIn wsX1_become wsX9_byteAt := goodIn_r _ [19, 11, 20, 40, 41] (by decide +kernel) (by decide +kernel)
set_option maxRecDepth 20000 in
theorem gX1_become_X9_byteAt : GoodIn wsX1_become (wsV RX1 39 RX9 yX9_byteAt wsX9_byteAt) := goodIn_app (goodIn_of _ (by decide +kernel)) ggX1_become_X9_byteAt
set_option maxRecDepth 20000 in
theorem ggX1_become_X1_endsYear : GoodIn wsX1_become wsX1_endsYear := goodIn_r _ [26, 1, 27, 37, 38, 39] (by decide +kernel) (by decide +kernel)
set_option maxRecDepth 20000 in
theorem gX1_become_X1_endsYear : GoodIn wsX1_become (wsV RX1 42 RX1 yX1_endsYear wsX1_endsYear) := goodIn_app (goodIn_of _ (by decide +kernel)) ggX1_become_X1_endsYear
set_option maxRecDepth 20000 in
theorem ggX1_become_X1_lengthAt : GoodIn wsX1_become wsX1_lengthAt := goodIn_r _ [30, 31, 13, 14, 9, 15, 16, 17, 18, 19, 11, 20, 21, 40, 41] (by decide +kernel) (by decide +kernel)
set_option maxRecDepth 20000 in
theorem gX1_become_X1_lengthAt : GoodIn wsX1_become (va_wsS RX1 46 yX1_lengthAt wsX1_lengthAt) := goodIn_app (goodIn_of _ (by decide +kernel)) ggX1_become_X1_lengthAt
set_option maxRecDepth 20000 in
theorem ggX1_become_X1_takesMonth : GoodIn wsX1_become wsX1_takesMonth := goodIn_r _ [35, 1, 36, 37, 38, 39] (by decide +kernel) (by decide +kernel)
set_option maxRecDepth 20000 in
theorem gX1_become_X1_takesMonth : GoodIn wsX1_become (wsV RX1 50 RX1 yX1_takesMonth wsX1_takesMonth) := goodIn_app (goodIn_of _ (by decide +kernel)) ggX1_become_X1_takesMonth
theorem dX1_become_0 : decode cX1_become 0 = .ok (.aload_n 0, 1) := by decide +kernel
theorem dX1_become_1 : decode cX1_become 1 = .ok (.iconst 0, 1) := by decide +kernel
theorem dX1_become_2 : decode cX1_become 2 = .ok (.putfield 20, 3) := by decide +kernel
theorem dX1_become_5 : decode cX1_become 5 = .ok (.iconst 0, 1) := by decide +kernel
theorem dX1_become_6 : decode cX1_become 6 = .ok (.istore_n 2, 1) := by decide +kernel
theorem dX1_become_7 : decode cX1_become 7 = .ok (.iconst 0, 1) := by decide +kernel
theorem dX1_become_8 : decode cX1_become 8 = .ok (.istore_n 3, 1) := by decide +kernel
theorem dX1_become_9 : decode cX1_become 9 = .ok (.iload_n 3, 1) := by decide +kernel
theorem dX1_become_10 : decode cX1_become 10 = .ok (.aload_n 1, 1) := by decide +kernel
theorem dX1_become_11 : decode cX1_become 11 = .ok (.getfield 24, 3) := by decide +kernel
theorem dX1_become_14 : decode cX1_become 14 = .ok (.if_icmp .ge 77, 3) := by decide +kernel
theorem dX1_become_17 : decode cX1_become 17 = .ok (.iload_n 3, 1) := by decide +kernel
theorem dX1_become_18 : decode cX1_become 18 = .ok (.iconst 1, 1) := by decide +kernel
theorem dX1_become_19 : decode cX1_become 19 = .ok (.iadd, 1) := by decide +kernel
theorem dX1_become_20 : decode cX1_become 20 = .ok (.aload_n 1, 1) := by decide +kernel
theorem dX1_become_21 : decode cX1_become 21 = .ok (.iload_n 3, 1) := by decide +kernel
theorem dX1_become_22 : decode cX1_become 22 = .ok (.invokevirtual 29, 3) := by decide +kernel
theorem dX1_become_25 : decode cX1_become 25 = .ok (.invokestatic 33, 3) := by decide +kernel
theorem dX1_become_28 : decode cX1_become 28 = .ok (.istore 4, 2) := by decide +kernel
theorem dX1_become_30 : decode cX1_become 30 = .ok (.aload_n 1, 1) := by decide +kernel
theorem dX1_become_31 : decode cX1_become 31 = .ok (.iload_n 3, 1) := by decide +kernel
theorem dX1_become_32 : decode cX1_become 32 = .ok (.invokevirtual 39, 3) := by decide +kernel
theorem dX1_become_35 : decode cX1_become 35 = .ok (.bipush 59, 2) := by decide +kernel
theorem dX1_become_37 : decode cX1_become 37 = .ok (.if_icmp .ne 18, 3) := by decide +kernel
theorem dX1_become_40 : decode cX1_become 40 = .ok (.aload_n 0, 1) := by decide +kernel
theorem dX1_become_41 : decode cX1_become 41 = .ok (.iload_n 2, 1) := by decide +kernel
theorem dX1_become_42 : decode cX1_become 42 = .ok (.invokevirtual 42, 3) := by decide +kernel
theorem dX1_become_45 : decode cX1_become 45 = .ok (.ifCond .ne 5, 3) := by decide +kernel
theorem dX1_become_48 : decode cX1_become 48 = .ok (.iload_n 3, 1) := by decide +kernel
theorem dX1_become_49 : decode cX1_become 49 = .ok (.ireturn, 1) := by decide +kernel
theorem dX1_become_50 : decode cX1_become 50 = .ok (.iconst 0, 1) := by decide +kernel
theorem dX1_become_51 : decode cX1_become 51 = .ok (.istore_n 2, 1) := by decide +kernel
theorem dX1_become_52 : decode cX1_become 52 = .ok (.goto 33, 3) := by decide +kernel
theorem dX1_become_55 : decode cX1_become 55 = .ok (.aload_n 1, 1) := by decide +kernel
theorem dX1_become_56 : decode cX1_become 56 = .ok (.iload_n 3, 1) := by decide +kernel
theorem dX1_become_57 : decode cX1_become 57 = .ok (.invokevirtual 39, 3) := by decide +kernel
theorem dX1_become_60 : decode cX1_become 60 = .ok (.bipush 32, 2) := by decide +kernel
theorem dX1_become_62 : decode cX1_become 62 = .ok (.if_icmp .eq 23, 3) := by decide +kernel
theorem dX1_become_65 : decode cX1_become 65 = .ok (.aload_n 0, 1) := by decide +kernel
theorem dX1_become_66 : decode cX1_become 66 = .ok (.iload_n 2, 1) := by decide +kernel
theorem dX1_become_67 : decode cX1_become 67 = .ok (.aload_n 1, 1) := by decide +kernel
theorem dX1_become_68 : decode cX1_become 68 = .ok (.iload_n 3, 1) := by decide +kernel
theorem dX1_become_69 : decode cX1_become 69 = .ok (.iload 4, 2) := by decide +kernel
theorem dX1_become_71 : decode cX1_become 71 = .ok (.invokestatic 46, 3) := by decide +kernel
theorem dX1_become_74 : decode cX1_become 74 = .ok (.invokevirtual 50, 3) := by decide +kernel
theorem dX1_become_77 : decode cX1_become 77 = .ok (.ifCond .ne 5, 3) := by decide +kernel
theorem dX1_become_80 : decode cX1_become 80 = .ok (.iload_n 3, 1) := by decide +kernel
theorem dX1_become_81 : decode cX1_become 81 = .ok (.ireturn, 1) := by decide +kernel
theorem dX1_become_82 : decode cX1_become 82 = .ok (.iinc 2 1, 3) := by decide +kernel
theorem dX1_become_85 : decode cX1_become 85 = .ok (.iload 4, 2) := by decide +kernel
theorem dX1_become_87 : decode cX1_become 87 = .ok (.istore_n 3, 1) := by decide +kernel
theorem dX1_become_88 : decode cX1_become 88 = .ok (.goto (-79), 3) := by decide +kernel
theorem dX1_become_91 : decode cX1_become 91 = .ok (.iload_n 2, 1) := by decide +kernel
theorem dX1_become_92 : decode cX1_become 92 = .ok (.ifCond .le 10, 3) := by decide +kernel
theorem dX1_become_95 : decode cX1_become 95 = .ok (.aload_n 1, 1) := by decide +kernel
theorem dX1_become_96 : decode cX1_become 96 = .ok (.getfield 24, 3) := by decide +kernel
theorem dX1_become_99 : decode cX1_become 99 = .ok (.goto 4, 3) := by decide +kernel
theorem dX1_become_102 : decode cX1_become 102 = .ok (.iconst (-1), 1) := by decide +kernel
theorem dX1_become_103 : decode cX1_become 103 = .ok (.ireturn, 1) := by decide +kernel
theorem dX1_endsYear_0 : decode cX1_endsYear 0 = .ok (.aload_n 0, 1) := by decide +kernel
theorem dX1_endsYear_1 : decode cX1_endsYear 1 = .ok (.getfield 20, 3) := by decide +kernel
theorem dX1_endsYear_4 : decode cX1_endsYear 4 = .ok (.bipush 8, 2) := by decide +kernel
theorem dX1_endsYear_6 : decode cX1_endsYear 6 = .ok (.if_icmp .ge 9, 3) := by decide +kernel
theorem dX1_endsYear_9 : decode cX1_endsYear 9 = .ok (.iload_n 1, 1) := by decide +kernel
theorem dX1_endsYear_10 : decode cX1_endsYear 10 = .ok (.bipush 12, 2) := by decide +kernel
theorem dX1_endsYear_12 : decode cX1_endsYear 12 = .ok (.if_icmp .ge 5, 3) := by decide +kernel
theorem dX1_endsYear_15 : decode cX1_endsYear 15 = .ok (.iconst 0, 1) := by decide +kernel
theorem dX1_endsYear_16 : decode cX1_endsYear 16 = .ok (.ireturn, 1) := by decide +kernel
theorem dX1_endsYear_17 : decode cX1_endsYear 17 = .ok (.aload_n 0, 1) := by decide +kernel
theorem dX1_endsYear_18 : decode cX1_endsYear 18 = .ok (.getfield 16, 3) := by decide +kernel
theorem dX1_endsYear_21 : decode cX1_endsYear 21 = .ok (.aload_n 0, 1) := by decide +kernel
theorem dX1_endsYear_22 : decode cX1_endsYear 22 = .ok (.dup, 1) := by decide +kernel
theorem dX1_endsYear_23 : decode cX1_endsYear 23 = .ok (.getfield 20, 3) := by decide +kernel
theorem dX1_endsYear_26 : decode cX1_endsYear 26 = .ok (.dup_x1, 1) := by decide +kernel
theorem dX1_endsYear_27 : decode cX1_endsYear 27 = .ok (.iconst 1, 1) := by decide +kernel
theorem dX1_endsYear_28 : decode cX1_endsYear 28 = .ok (.iadd, 1) := by decide +kernel
theorem dX1_endsYear_29 : decode cX1_endsYear 29 = .ok (.putfield 20, 3) := by decide +kernel
theorem dX1_endsYear_32 : decode cX1_endsYear 32 = .ok (.iload_n 1, 1) := by decide +kernel
theorem dX1_endsYear_33 : decode cX1_endsYear 33 = .ok (.iastore, 1) := by decide +kernel
theorem dX1_endsYear_34 : decode cX1_endsYear 34 = .ok (.iconst 1, 1) := by decide +kernel
theorem dX1_endsYear_35 : decode cX1_endsYear 35 = .ok (.ireturn, 1) := by decide +kernel
theorem dX1_takesMonth_0 : decode cX1_takesMonth 0 = .ok (.aload_n 0, 1) := by decide +kernel
theorem dX1_takesMonth_1 : decode cX1_takesMonth 1 = .ok (.getfield 20, 3) := by decide +kernel
theorem dX1_takesMonth_4 : decode cX1_takesMonth 4 = .ok (.bipush 8, 2) := by decide +kernel
theorem dX1_takesMonth_6 : decode cX1_takesMonth 6 = .ok (.if_icmp .ge 15, 3) := by decide +kernel
theorem dX1_takesMonth_9 : decode cX1_takesMonth 9 = .ok (.iload_n 1, 1) := by decide +kernel
theorem dX1_takesMonth_10 : decode cX1_takesMonth 10 = .ok (.bipush 13, 2) := by decide +kernel
theorem dX1_takesMonth_12 : decode cX1_takesMonth 12 = .ok (.if_icmp .ge 9, 3) := by decide +kernel
theorem dX1_takesMonth_15 : decode cX1_takesMonth 15 = .ok (.iload_n 2, 1) := by decide +kernel
theorem dX1_takesMonth_16 : decode cX1_takesMonth 16 = .ok (.bipush (-9), 2) := by decide +kernel
theorem dX1_takesMonth_18 : decode cX1_takesMonth 18 = .ok (.if_icmp .ne 5, 3) := by decide +kernel
theorem dX1_takesMonth_21 : decode cX1_takesMonth 21 = .ok (.iconst 0, 1) := by decide +kernel
theorem dX1_takesMonth_22 : decode cX1_takesMonth 22 = .ok (.ireturn, 1) := by decide +kernel
theorem dX1_takesMonth_23 : decode cX1_takesMonth 23 = .ok (.aload_n 0, 1) := by decide +kernel
theorem dX1_takesMonth_24 : decode cX1_takesMonth 24 = .ok (.getfield 11, 3) := by decide +kernel
theorem dX1_takesMonth_27 : decode cX1_takesMonth 27 = .ok (.aload_n 0, 1) := by decide +kernel
theorem dX1_takesMonth_28 : decode cX1_takesMonth 28 = .ok (.getfield 20, 3) := by decide +kernel
theorem dX1_takesMonth_31 : decode cX1_takesMonth 31 = .ok (.aaload, 1) := by decide +kernel
theorem dX1_takesMonth_32 : decode cX1_takesMonth 32 = .ok (.iload_n 1, 1) := by decide +kernel
theorem dX1_takesMonth_33 : decode cX1_takesMonth 33 = .ok (.iload_n 2, 1) := by decide +kernel
theorem dX1_takesMonth_34 : decode cX1_takesMonth 34 = .ok (.iastore, 1) := by decide +kernel
theorem dX1_takesMonth_35 : decode cX1_takesMonth 35 = .ok (.iconst 1, 1) := by decide +kernel
theorem dX1_takesMonth_36 : decode cX1_takesMonth 36 = .ok (.ireturn, 1) := by decide +kernel
set_option maxRecDepth 20000 in
theorem ggX1_lengthAt_X9_isFigure : GoodIn wsX1_lengthAt wsX9_isFigure := goodIn_r _ [5, 6, 7, 8, 4, 9, 10, 11, 13, 14] (by decide +kernel) (by decide +kernel)
set_option maxRecDepth 20000 in
theorem gX1_lengthAt_X9_isFigure : GoodIn wsX1_lengthAt (wsV RX1 54 RX9 yX9_isFigure wsX9_isFigure) := goodIn_app (goodIn_of _ (by decide +kernel)) ggX1_lengthAt_X9_isFigure
set_option maxRecDepth 20000 in
theorem ggX1_lengthAt_X9_byteAt : GoodIn wsX1_lengthAt wsX9_byteAt := goodIn_r _ [9, 10, 11, 13, 14] (by decide +kernel) (by decide +kernel)
set_option maxRecDepth 20000 in
theorem gX1_lengthAt_X9_byteAt : GoodIn wsX1_lengthAt (wsV RX1 39 RX9 yX9_byteAt wsX9_byteAt) := goodIn_app (goodIn_of _ (by decide +kernel)) ggX1_lengthAt_X9_byteAt
theorem dX1_lengthAt_0 : decode cX1_lengthAt 0 = .ok (.iload_n 2, 1) := by decide +kernel
theorem dX1_lengthAt_1 : decode cX1_lengthAt 1 = .ok (.iload_n 1, 1) := by decide +kernel
theorem dX1_lengthAt_2 : decode cX1_lengthAt 2 = .ok (.isub, 1) := by decide +kernel
theorem dX1_lengthAt_3 : decode cX1_lengthAt 3 = .ok (.iconst 2, 1) := by decide +kernel
theorem dX1_lengthAt_4 : decode cX1_lengthAt 4 = .ok (.if_icmp .ne 11, 3) := by decide +kernel
theorem dX1_lengthAt_7 : decode cX1_lengthAt 7 = .ok (.aload_n 0, 1) := by decide +kernel
theorem dX1_lengthAt_8 : decode cX1_lengthAt 8 = .ok (.iload_n 1, 1) := by decide +kernel
theorem dX1_lengthAt_9 : decode cX1_lengthAt 9 = .ok (.invokevirtual 54, 3) := by decide +kernel
theorem dX1_lengthAt_12 : decode cX1_lengthAt 12 = .ok (.ifCond .ne 6, 3) := by decide +kernel
theorem dX1_lengthAt_15 : decode cX1_lengthAt 15 = .ok (.bipush (-9), 2) := by decide +kernel
theorem dX1_lengthAt_17 : decode cX1_lengthAt 17 = .ok (.ireturn, 1) := by decide +kernel
theorem dX1_lengthAt_18 : decode cX1_lengthAt 18 = .ok (.bipush 10, 2) := by decide +kernel
theorem dX1_lengthAt_20 : decode cX1_lengthAt 20 = .ok (.aload_n 0, 1) := by decide +kernel
theorem dX1_lengthAt_21 : decode cX1_lengthAt 21 = .ok (.iload_n 1, 1) := by decide +kernel
theorem dX1_lengthAt_22 : decode cX1_lengthAt 22 = .ok (.invokevirtual 39, 3) := by decide +kernel
theorem dX1_lengthAt_25 : decode cX1_lengthAt 25 = .ok (.bipush 48, 2) := by decide +kernel
theorem dX1_lengthAt_27 : decode cX1_lengthAt 27 = .ok (.isub, 1) := by decide +kernel
theorem dX1_lengthAt_28 : decode cX1_lengthAt 28 = .ok (.imul, 1) := by decide +kernel
theorem dX1_lengthAt_29 : decode cX1_lengthAt 29 = .ok (.aload_n 0, 1) := by decide +kernel
theorem dX1_lengthAt_30 : decode cX1_lengthAt 30 = .ok (.iload_n 1, 1) := by decide +kernel
theorem dX1_lengthAt_31 : decode cX1_lengthAt 31 = .ok (.iconst 1, 1) := by decide +kernel
theorem dX1_lengthAt_32 : decode cX1_lengthAt 32 = .ok (.iadd, 1) := by decide +kernel
theorem dX1_lengthAt_33 : decode cX1_lengthAt 33 = .ok (.invokevirtual 39, 3) := by decide +kernel
theorem dX1_lengthAt_36 : decode cX1_lengthAt 36 = .ok (.iadd, 1) := by decide +kernel
theorem dX1_lengthAt_37 : decode cX1_lengthAt 37 = .ok (.bipush 48, 2) := by decide +kernel
theorem dX1_lengthAt_39 : decode cX1_lengthAt 39 = .ok (.isub, 1) := by decide +kernel
theorem dX1_lengthAt_40 : decode cX1_lengthAt 40 = .ok (.istore_n 3, 1) := by decide +kernel
theorem dX1_lengthAt_41 : decode cX1_lengthAt 41 = .ok (.iload_n 3, 1) := by decide +kernel
theorem dX1_lengthAt_42 : decode cX1_lengthAt 42 = .ok (.bipush 29, 2) := by decide +kernel
theorem dX1_lengthAt_44 : decode cX1_lengthAt 44 = .ok (.if_icmp .eq 9, 3) := by decide +kernel
theorem dX1_lengthAt_47 : decode cX1_lengthAt 47 = .ok (.iload_n 3, 1) := by decide +kernel
theorem dX1_lengthAt_48 : decode cX1_lengthAt 48 = .ok (.bipush 30, 2) := by decide +kernel
theorem dX1_lengthAt_50 : decode cX1_lengthAt 50 = .ok (.if_icmp .ne 7, 3) := by decide +kernel
theorem dX1_lengthAt_53 : decode cX1_lengthAt 53 = .ok (.iload_n 3, 1) := by decide +kernel
theorem dX1_lengthAt_54 : decode cX1_lengthAt 54 = .ok (.goto 5, 3) := by decide +kernel
theorem dX1_lengthAt_57 : decode cX1_lengthAt 57 = .ok (.bipush (-9), 2) := by decide +kernel
theorem dX1_lengthAt_59 : decode cX1_lengthAt 59 = .ok (.ireturn, 1) := by decide +kernel
set_option maxRecDepth 20000 in
theorem ggX1_hasDay_X11_within : GoodIn wsX1_hasDay wsX11_within := goodIn_r _ [6] (by decide +kernel) (by decide +kernel)
set_option maxRecDepth 20000 in
theorem gX1_hasDay_X11_within_n57 : GoodIn wsX1_hasDay (wsX11_within) := ggX1_hasDay_X11_within
theorem dX1_hasDay_0 : decode cX1_hasDay 0 = .ok (.iload_n 1, 1) := by decide +kernel
theorem dX1_hasDay_1 : decode cX1_hasDay 1 = .ok (.iconst 0, 1) := by decide +kernel
theorem dX1_hasDay_2 : decode cX1_hasDay 2 = .ok (.aload_n 0, 1) := by decide +kernel
theorem dX1_hasDay_3 : decode cX1_hasDay 3 = .ok (.getfield 20, 3) := by decide +kernel
theorem dX1_hasDay_6 : decode cX1_hasDay 6 = .ok (.iconst 1, 1) := by decide +kernel
theorem dX1_hasDay_7 : decode cX1_hasDay 7 = .ok (.isub, 1) := by decide +kernel
theorem dX1_hasDay_8 : decode cX1_hasDay 8 = .ok (.invokestatic 57, 3) := by decide +kernel
theorem dX1_hasDay_11 : decode cX1_hasDay 11 = .ok (.ifCond .eq 41, 3) := by decide +kernel
theorem dX1_hasDay_14 : decode cX1_hasDay 14 = .ok (.iload_n 2, 1) := by decide +kernel
theorem dX1_hasDay_15 : decode cX1_hasDay 15 = .ok (.iconst 0, 1) := by decide +kernel
theorem dX1_hasDay_16 : decode cX1_hasDay 16 = .ok (.aload_n 0, 1) := by decide +kernel
theorem dX1_hasDay_17 : decode cX1_hasDay 17 = .ok (.getfield 16, 3) := by decide +kernel
theorem dX1_hasDay_20 : decode cX1_hasDay 20 = .ok (.iload_n 1, 1) := by decide +kernel
theorem dX1_hasDay_21 : decode cX1_hasDay 21 = .ok (.iaload, 1) := by decide +kernel
theorem dX1_hasDay_22 : decode cX1_hasDay 22 = .ok (.iconst 1, 1) := by decide +kernel
theorem dX1_hasDay_23 : decode cX1_hasDay 23 = .ok (.isub, 1) := by decide +kernel
theorem dX1_hasDay_24 : decode cX1_hasDay 24 = .ok (.invokestatic 57, 3) := by decide +kernel
theorem dX1_hasDay_27 : decode cX1_hasDay 27 = .ok (.ifCond .eq 25, 3) := by decide +kernel
theorem dX1_hasDay_30 : decode cX1_hasDay 30 = .ok (.iload_n 3, 1) := by decide +kernel
theorem dX1_hasDay_31 : decode cX1_hasDay 31 = .ok (.iconst 0, 1) := by decide +kernel
theorem dX1_hasDay_32 : decode cX1_hasDay 32 = .ok (.aload_n 0, 1) := by decide +kernel
theorem dX1_hasDay_33 : decode cX1_hasDay 33 = .ok (.getfield 11, 3) := by decide +kernel
theorem dX1_hasDay_36 : decode cX1_hasDay 36 = .ok (.iload_n 1, 1) := by decide +kernel
theorem dX1_hasDay_37 : decode cX1_hasDay 37 = .ok (.aaload, 1) := by decide +kernel
theorem dX1_hasDay_38 : decode cX1_hasDay 38 = .ok (.iload_n 2, 1) := by decide +kernel
theorem dX1_hasDay_39 : decode cX1_hasDay 39 = .ok (.iaload, 1) := by decide +kernel
theorem dX1_hasDay_40 : decode cX1_hasDay 40 = .ok (.iconst 1, 1) := by decide +kernel
theorem dX1_hasDay_41 : decode cX1_hasDay 41 = .ok (.isub, 1) := by decide +kernel
theorem dX1_hasDay_42 : decode cX1_hasDay 42 = .ok (.invokestatic 57, 3) := by decide +kernel
theorem dX1_hasDay_45 : decode cX1_hasDay 45 = .ok (.ifCond .eq 7, 3) := by decide +kernel
theorem dX1_hasDay_48 : decode cX1_hasDay 48 = .ok (.iconst 1, 1) := by decide +kernel
theorem dX1_hasDay_49 : decode cX1_hasDay 49 = .ok (.goto 4, 3) := by decide +kernel
theorem dX1_hasDay_52 : decode cX1_hasDay 52 = .ok (.iconst 0, 1) := by decide +kernel
theorem dX1_hasDay_53 : decode cX1_hasDay 53 = .ok (.ireturn, 1) := by decide +kernel
set_option maxRecDepth 20000 in
theorem ggX1_daysAhead_X1_daysOf : GoodIn wsX1_daysAhead wsX1_daysOf := goodIn_r _ [6, 7, 8, 9, 10] (by decide +kernel) (by decide +kernel)
set_option maxRecDepth 20000 in
theorem gX1_daysAhead_X1_daysOf : GoodIn wsX1_daysAhead (wsV RX1 61 RX1 yX1_daysOf wsX1_daysOf) := goodIn_app (goodIn_of _ (by decide +kernel)) ggX1_daysAhead_X1_daysOf
theorem dX1_daysAhead_0 : decode cX1_daysAhead 0 = .ok (.iload_n 3, 1) := by decide +kernel
theorem dX1_daysAhead_1 : decode cX1_daysAhead 1 = .ok (.istore 4, 2) := by decide +kernel
theorem dX1_daysAhead_3 : decode cX1_daysAhead 3 = .ok (.iconst 0, 1) := by decide +kernel
theorem dX1_daysAhead_4 : decode cX1_daysAhead 4 = .ok (.istore 5, 2) := by decide +kernel
theorem dX1_daysAhead_6 : decode cX1_daysAhead 6 = .ok (.iload 5, 2) := by decide +kernel
theorem dX1_daysAhead_8 : decode cX1_daysAhead 8 = .ok (.iload_n 1, 1) := by decide +kernel
theorem dX1_daysAhead_9 : decode cX1_daysAhead 9 = .ok (.if_icmp .ge 27, 3) := by decide +kernel
theorem dX1_daysAhead_12 : decode cX1_daysAhead 12 = .ok (.iload 4, 2) := by decide +kernel
theorem dX1_daysAhead_14 : decode cX1_daysAhead 14 = .ok (.aload_n 0, 1) := by decide +kernel
theorem dX1_daysAhead_15 : decode cX1_daysAhead 15 = .ok (.iload 5, 2) := by decide +kernel
theorem dX1_daysAhead_17 : decode cX1_daysAhead 17 = .ok (.aload_n 0, 1) := by decide +kernel
theorem dX1_daysAhead_18 : decode cX1_daysAhead 18 = .ok (.getfield 16, 3) := by decide +kernel
theorem dX1_daysAhead_21 : decode cX1_daysAhead 21 = .ok (.iload 5, 2) := by decide +kernel
theorem dX1_daysAhead_23 : decode cX1_daysAhead 23 = .ok (.iaload, 1) := by decide +kernel
theorem dX1_daysAhead_24 : decode cX1_daysAhead 24 = .ok (.invokevirtual 61, 3) := by decide +kernel
theorem dX1_daysAhead_27 : decode cX1_daysAhead 27 = .ok (.iadd, 1) := by decide +kernel
theorem dX1_daysAhead_28 : decode cX1_daysAhead 28 = .ok (.istore 4, 2) := by decide +kernel
theorem dX1_daysAhead_30 : decode cX1_daysAhead 30 = .ok (.iinc 5 1, 3) := by decide +kernel
theorem dX1_daysAhead_33 : decode cX1_daysAhead 33 = .ok (.goto (-27), 3) := by decide +kernel
theorem dX1_daysAhead_36 : decode cX1_daysAhead 36 = .ok (.iload 4, 2) := by decide +kernel
theorem dX1_daysAhead_38 : decode cX1_daysAhead 38 = .ok (.aload_n 0, 1) := by decide +kernel
theorem dX1_daysAhead_39 : decode cX1_daysAhead 39 = .ok (.iload_n 1, 1) := by decide +kernel
theorem dX1_daysAhead_40 : decode cX1_daysAhead 40 = .ok (.iload_n 2, 1) := by decide +kernel
theorem dX1_daysAhead_41 : decode cX1_daysAhead 41 = .ok (.invokevirtual 61, 3) := by decide +kernel
theorem dX1_daysAhead_44 : decode cX1_daysAhead 44 = .ok (.iadd, 1) := by decide +kernel
theorem dX1_daysAhead_45 : decode cX1_daysAhead 45 = .ok (.ireturn, 1) := by decide +kernel
set_option maxRecDepth 20000 in
theorem ggX1_allDays_X1_daysOf : GoodIn wsX1_allDays wsX1_daysOf := goodIn_r _ [7, 8, 9, 10, 11] (by decide +kernel) (by decide +kernel)
set_option maxRecDepth 20000 in
theorem gX1_allDays_X1_daysOf : GoodIn wsX1_allDays (wsV RX1 61 RX1 yX1_daysOf wsX1_daysOf) := goodIn_app (goodIn_of _ (by decide +kernel)) ggX1_allDays_X1_daysOf
theorem dX1_allDays_0 : decode cX1_allDays 0 = .ok (.iconst 0, 1) := by decide +kernel
theorem dX1_allDays_1 : decode cX1_allDays 1 = .ok (.istore_n 1, 1) := by decide +kernel
theorem dX1_allDays_2 : decode cX1_allDays 2 = .ok (.iconst 0, 1) := by decide +kernel
theorem dX1_allDays_3 : decode cX1_allDays 3 = .ok (.istore_n 2, 1) := by decide +kernel
theorem dX1_allDays_4 : decode cX1_allDays 4 = .ok (.iload_n 2, 1) := by decide +kernel
theorem dX1_allDays_5 : decode cX1_allDays 5 = .ok (.aload_n 0, 1) := by decide +kernel
theorem dX1_allDays_6 : decode cX1_allDays 6 = .ok (.getfield 20, 3) := by decide +kernel
theorem dX1_allDays_9 : decode cX1_allDays 9 = .ok (.if_icmp .ge 23, 3) := by decide +kernel
theorem dX1_allDays_12 : decode cX1_allDays 12 = .ok (.iload_n 1, 1) := by decide +kernel
theorem dX1_allDays_13 : decode cX1_allDays 13 = .ok (.aload_n 0, 1) := by decide +kernel
theorem dX1_allDays_14 : decode cX1_allDays 14 = .ok (.iload_n 2, 1) := by decide +kernel
theorem dX1_allDays_15 : decode cX1_allDays 15 = .ok (.aload_n 0, 1) := by decide +kernel
theorem dX1_allDays_16 : decode cX1_allDays 16 = .ok (.getfield 16, 3) := by decide +kernel
theorem dX1_allDays_19 : decode cX1_allDays 19 = .ok (.iload_n 2, 1) := by decide +kernel
theorem dX1_allDays_20 : decode cX1_allDays 20 = .ok (.iaload, 1) := by decide +kernel
theorem dX1_allDays_21 : decode cX1_allDays 21 = .ok (.invokevirtual 61, 3) := by decide +kernel
theorem dX1_allDays_24 : decode cX1_allDays 24 = .ok (.iadd, 1) := by decide +kernel
theorem dX1_allDays_25 : decode cX1_allDays 25 = .ok (.istore_n 1, 1) := by decide +kernel
theorem dX1_allDays_26 : decode cX1_allDays 26 = .ok (.iinc 2 1, 3) := by decide +kernel
theorem dX1_allDays_29 : decode cX1_allDays 29 = .ok (.goto (-25), 3) := by decide +kernel
theorem dX1_allDays_32 : decode cX1_allDays 32 = .ok (.iload_n 1, 1) := by decide +kernel
theorem dX1_allDays_33 : decode cX1_allDays 33 = .ok (.ireturn, 1) := by decide +kernel
theorem dX1_partOfDay_0 : decode cX1_partOfDay 0 = .ok (.iload_n 1, 1) := by decide +kernel
theorem dX1_partOfDay_1 : decode cX1_partOfDay 1 = .ok (.istore_n 3, 1) := by decide +kernel
theorem dX1_partOfDay_2 : decode cX1_partOfDay 2 = .ok (.iconst 0, 1) := by decide +kernel
theorem dX1_partOfDay_3 : decode cX1_partOfDay 3 = .ok (.istore 4, 2) := by decide +kernel
theorem dX1_partOfDay_5 : decode cX1_partOfDay 5 = .ok (.iload 4, 2) := by decide +kernel
theorem dX1_partOfDay_7 : decode cX1_partOfDay 7 = .ok (.aload_n 0, 1) := by decide +kernel
theorem dX1_partOfDay_8 : decode cX1_partOfDay 8 = .ok (.getfield 20, 3) := by decide +kernel
theorem dX1_partOfDay_11 : decode cX1_partOfDay 11 = .ok (.if_icmp .ge 78, 3) := by decide +kernel
theorem dX1_partOfDay_14 : decode cX1_partOfDay 14 = .ok (.iconst 0, 1) := by decide +kernel
theorem dX1_partOfDay_15 : decode cX1_partOfDay 15 = .ok (.istore 5, 2) := by decide +kernel
theorem dX1_partOfDay_17 : decode cX1_partOfDay 17 = .ok (.iload 5, 2) := by decide +kernel
theorem dX1_partOfDay_19 : decode cX1_partOfDay 19 = .ok (.aload_n 0, 1) := by decide +kernel
theorem dX1_partOfDay_20 : decode cX1_partOfDay 20 = .ok (.getfield 16, 3) := by decide +kernel
theorem dX1_partOfDay_23 : decode cX1_partOfDay 23 = .ok (.iload 4, 2) := by decide +kernel
theorem dX1_partOfDay_25 : decode cX1_partOfDay 25 = .ok (.iaload, 1) := by decide +kernel
theorem dX1_partOfDay_26 : decode cX1_partOfDay 26 = .ok (.if_icmp .ge 57, 3) := by decide +kernel
theorem dX1_partOfDay_29 : decode cX1_partOfDay 29 = .ok (.iload_n 3, 1) := by decide +kernel
theorem dX1_partOfDay_30 : decode cX1_partOfDay 30 = .ok (.aload_n 0, 1) := by decide +kernel
theorem dX1_partOfDay_31 : decode cX1_partOfDay 31 = .ok (.getfield 11, 3) := by decide +kernel
theorem dX1_partOfDay_34 : decode cX1_partOfDay 34 = .ok (.iload 4, 2) := by decide +kernel
theorem dX1_partOfDay_36 : decode cX1_partOfDay 36 = .ok (.aaload, 1) := by decide +kernel
theorem dX1_partOfDay_37 : decode cX1_partOfDay 37 = .ok (.iload 5, 2) := by decide +kernel
theorem dX1_partOfDay_39 : decode cX1_partOfDay 39 = .ok (.iaload, 1) := by decide +kernel
theorem dX1_partOfDay_40 : decode cX1_partOfDay 40 = .ok (.if_icmp .ge 24, 3) := by decide +kernel
theorem dX1_partOfDay_43 : decode cX1_partOfDay 43 = .ok (.iload_n 2, 1) := by decide +kernel
theorem dX1_partOfDay_44 : decode cX1_partOfDay 44 = .ok (.ifCond .ne 8, 3) := by decide +kernel
theorem dX1_partOfDay_47 : decode cX1_partOfDay 47 = .ok (.iload 4, 2) := by decide +kernel
theorem dX1_partOfDay_49 : decode cX1_partOfDay 49 = .ok (.goto 14, 3) := by decide +kernel
theorem dX1_partOfDay_52 : decode cX1_partOfDay 52 = .ok (.iload_n 2, 1) := by decide +kernel
theorem dX1_partOfDay_53 : decode cX1_partOfDay 53 = .ok (.iconst 1, 1) := by decide +kernel
theorem dX1_partOfDay_54 : decode cX1_partOfDay 54 = .ok (.if_icmp .ne 8, 3) := by decide +kernel
theorem dX1_partOfDay_57 : decode cX1_partOfDay 57 = .ok (.iload 5, 2) := by decide +kernel
theorem dX1_partOfDay_59 : decode cX1_partOfDay 59 = .ok (.goto 4, 3) := by decide +kernel
theorem dX1_partOfDay_62 : decode cX1_partOfDay 62 = .ok (.iload_n 3, 1) := by decide +kernel
theorem dX1_partOfDay_63 : decode cX1_partOfDay 63 = .ok (.ireturn, 1) := by decide +kernel
theorem dX1_partOfDay_64 : decode cX1_partOfDay 64 = .ok (.iload_n 3, 1) := by decide +kernel
theorem dX1_partOfDay_65 : decode cX1_partOfDay 65 = .ok (.aload_n 0, 1) := by decide +kernel
theorem dX1_partOfDay_66 : decode cX1_partOfDay 66 = .ok (.getfield 11, 3) := by decide +kernel
theorem dX1_partOfDay_69 : decode cX1_partOfDay 69 = .ok (.iload 4, 2) := by decide +kernel
theorem dX1_partOfDay_71 : decode cX1_partOfDay 71 = .ok (.aaload, 1) := by decide +kernel
theorem dX1_partOfDay_72 : decode cX1_partOfDay 72 = .ok (.iload 5, 2) := by decide +kernel
theorem dX1_partOfDay_74 : decode cX1_partOfDay 74 = .ok (.iaload, 1) := by decide +kernel
theorem dX1_partOfDay_75 : decode cX1_partOfDay 75 = .ok (.isub, 1) := by decide +kernel
theorem dX1_partOfDay_76 : decode cX1_partOfDay 76 = .ok (.istore_n 3, 1) := by decide +kernel
theorem dX1_partOfDay_77 : decode cX1_partOfDay 77 = .ok (.iinc 5 1, 3) := by decide +kernel
theorem dX1_partOfDay_80 : decode cX1_partOfDay 80 = .ok (.goto (-63), 3) := by decide +kernel
theorem dX1_partOfDay_83 : decode cX1_partOfDay 83 = .ok (.iinc 4 1, 3) := by decide +kernel
theorem dX1_partOfDay_86 : decode cX1_partOfDay 86 = .ok (.goto (-81), 3) := by decide +kernel
theorem dX1_partOfDay_89 : decode cX1_partOfDay 89 = .ok (.ldc 64, 2) := by decide +kernel
theorem dX1_partOfDay_91 : decode cX1_partOfDay 91 = .ok (.ireturn, 1) := by decide +kernel
theorem dX1_daysOf_0 : decode cX1_daysOf 0 = .ok (.iconst 0, 1) := by decide +kernel
theorem dX1_daysOf_1 : decode cX1_daysOf 1 = .ok (.istore_n 3, 1) := by decide +kernel
theorem dX1_daysOf_2 : decode cX1_daysOf 2 = .ok (.iconst 0, 1) := by decide +kernel
theorem dX1_daysOf_3 : decode cX1_daysOf 3 = .ok (.istore 4, 2) := by decide +kernel
theorem dX1_daysOf_5 : decode cX1_daysOf 5 = .ok (.iload 4, 2) := by decide +kernel
theorem dX1_daysOf_7 : decode cX1_daysOf 7 = .ok (.iload_n 2, 1) := by decide +kernel
theorem dX1_daysOf_8 : decode cX1_daysOf 8 = .ok (.if_icmp .ge 21, 3) := by decide +kernel
theorem dX1_daysOf_11 : decode cX1_daysOf 11 = .ok (.iload_n 3, 1) := by decide +kernel
theorem dX1_daysOf_12 : decode cX1_daysOf 12 = .ok (.aload_n 0, 1) := by decide +kernel
theorem dX1_daysOf_13 : decode cX1_daysOf 13 = .ok (.getfield 11, 3) := by decide +kernel
theorem dX1_daysOf_16 : decode cX1_daysOf 16 = .ok (.iload_n 1, 1) := by decide +kernel
theorem dX1_daysOf_17 : decode cX1_daysOf 17 = .ok (.aaload, 1) := by decide +kernel
theorem dX1_daysOf_18 : decode cX1_daysOf 18 = .ok (.iload 4, 2) := by decide +kernel
theorem dX1_daysOf_20 : decode cX1_daysOf 20 = .ok (.iaload, 1) := by decide +kernel
theorem dX1_daysOf_21 : decode cX1_daysOf 21 = .ok (.iadd, 1) := by decide +kernel
theorem dX1_daysOf_22 : decode cX1_daysOf 22 = .ok (.istore_n 3, 1) := by decide +kernel
theorem dX1_daysOf_23 : decode cX1_daysOf 23 = .ok (.iinc 4 1, 3) := by decide +kernel
theorem dX1_daysOf_26 : decode cX1_daysOf 26 = .ok (.goto (-21), 3) := by decide +kernel
theorem dX1_daysOf_29 : decode cX1_daysOf 29 = .ok (.iload_n 3, 1) := by decide +kernel
theorem dX1_daysOf_30 : decode cX1_daysOf 30 = .ok (.ireturn, 1) := by decide +kernel
set_option maxRecDepth 20000 in
theorem ggX2_init_X0_init : GoodIn wsX2_init wsX0_init := goodIn_r _ [19, 20, 2, 3, 21, 22, 23, 24, 25, 26, 37, 38, 39, 40, 41, 42] (by decide +kernel) (by decide +kernel)
set_option maxRecDepth 20000 in
theorem gX2_init_X0_init_n11 : GoodIn wsX2_init (wsX0_init) := ggX2_init_X0_init
set_option maxRecDepth 20000 in
theorem ggX2_init_X6_init : GoodIn wsX2_init wsX6_init := goodIn_r _ [28, 29, 2, 3, 21, 30, 31, 32, 49, 50, 51, 52] (by decide +kernel) (by decide +kernel)
set_option maxRecDepth 20000 in
theorem gX2_init_X6_init_n20 : GoodIn wsX2_init (wsX6_init) := ggX2_init_X6_init
set_option maxRecDepth 20000 in
theorem ggX2_init_X3_init : GoodIn wsX2_init wsX3_init := goodIn_r _ [34, 35, 2, 3, 21, 36, 53, 54] (by decide +kernel) (by decide +kernel)
set_option maxRecDepth 20000 in
theorem gX2_init_X3_init_n27 : GoodIn wsX2_init (wsX3_init) := ggX2_init_X3_init
theorem dX2_init_0 : decode cX2_init 0 = .ok (.aload_n 0, 1) := by decide +kernel
theorem dX2_init_1 : decode cX2_init 1 = .ok (.invokespecial 3, 3) := by decide +kernel
theorem dX2_init_4 : decode cX2_init 4 = .ok (.aload_n 0, 1) := by decide +kernel
theorem dX2_init_5 : decode cX2_init 5 = .ok (.new 9, 3) := by decide +kernel
theorem dX2_init_8 : decode cX2_init 8 = .ok (.dup, 1) := by decide +kernel
theorem dX2_init_9 : decode cX2_init 9 = .ok (.invokespecial 11, 3) := by decide +kernel
theorem dX2_init_12 : decode cX2_init 12 = .ok (.putfield 12, 3) := by decide +kernel
theorem dX2_init_15 : decode cX2_init 15 = .ok (.aload_n 0, 1) := by decide +kernel
theorem dX2_init_16 : decode cX2_init 16 = .ok (.new 18, 3) := by decide +kernel
theorem dX2_init_19 : decode cX2_init 19 = .ok (.dup, 1) := by decide +kernel
theorem dX2_init_20 : decode cX2_init 20 = .ok (.invokespecial 20, 3) := by decide +kernel
theorem dX2_init_23 : decode cX2_init 23 = .ok (.putfield 21, 3) := by decide +kernel
theorem dX2_init_26 : decode cX2_init 26 = .ok (.aload_n 0, 1) := by decide +kernel
theorem dX2_init_27 : decode cX2_init 27 = .ok (.new 25, 3) := by decide +kernel
theorem dX2_init_30 : decode cX2_init 30 = .ok (.dup, 1) := by decide +kernel
theorem dX2_init_31 : decode cX2_init 31 = .ok (.invokespecial 27, 3) := by decide +kernel
theorem dX2_init_34 : decode cX2_init 34 = .ok (.putfield 28, 3) := by decide +kernel
theorem dX2_init_37 : decode cX2_init 37 = .ok (.aload_n 0, 1) := by decide +kernel
theorem dX2_init_38 : decode cX2_init 38 = .ok (.iconst 5, 1) := by decide +kernel
theorem dX2_init_39 : decode cX2_init 39 = .ok (.newarray .long, 2) := by decide +kernel
theorem dX2_init_41 : decode cX2_init 41 = .ok (.dup, 1) := by decide +kernel
theorem dX2_init_42 : decode cX2_init 42 = .ok (.iconst 0, 1) := by decide +kernel
theorem dX2_init_43 : decode cX2_init 43 = .ok (.lconst 1, 1) := by decide +kernel
theorem dX2_init_44 : decode cX2_init 44 = .ok (.lastore, 1) := by decide +kernel
theorem dX2_init_45 : decode cX2_init 45 = .ok (.dup, 1) := by decide +kernel
theorem dX2_init_46 : decode cX2_init 46 = .ok (.iconst 1, 1) := by decide +kernel
theorem dX2_init_47 : decode cX2_init 47 = .ok (.lconst 1, 1) := by decide +kernel
theorem dX2_init_48 : decode cX2_init 48 = .ok (.lastore, 1) := by decide +kernel
theorem dX2_init_49 : decode cX2_init 49 = .ok (.dup, 1) := by decide +kernel
theorem dX2_init_50 : decode cX2_init 50 = .ok (.iconst 2, 1) := by decide +kernel
theorem dX2_init_51 : decode cX2_init 51 = .ok (.lconst 1, 1) := by decide +kernel
theorem dX2_init_52 : decode cX2_init 52 = .ok (.lastore, 1) := by decide +kernel
theorem dX2_init_53 : decode cX2_init 53 = .ok (.dup, 1) := by decide +kernel
theorem dX2_init_54 : decode cX2_init 54 = .ok (.iconst 3, 1) := by decide +kernel
theorem dX2_init_55 : decode cX2_init 55 = .ok (.lconst 1, 1) := by decide +kernel
theorem dX2_init_56 : decode cX2_init 56 = .ok (.lastore, 1) := by decide +kernel
theorem dX2_init_57 : decode cX2_init 57 = .ok (.dup, 1) := by decide +kernel
theorem dX2_init_58 : decode cX2_init 58 = .ok (.iconst 4, 1) := by decide +kernel
theorem dX2_init_59 : decode cX2_init 59 = .ok (.lconst 1, 1) := by decide +kernel
theorem dX2_init_60 : decode cX2_init 60 = .ok (.lastore, 1) := by decide +kernel
theorem dX2_init_61 : decode cX2_init 61 = .ok (.putfield 32, 3) := by decide +kernel
theorem dX2_init_64 : decode cX2_init 64 = .ok (.return_, 1) := by decide +kernel
set_option maxRecDepth 20000 in
theorem ggX2_become_X0_become : GoodIn wsX2_become wsX0_become := goodIn_r _ [14, 15, 16, 6, 7, 8, 17, 18, 19, 20, 21, 46, 47, 48, 49, 50, 51] (by decide +kernel) (by decide +kernel)
set_option maxRecDepth 20000 in
theorem gX2_become_X0_become : GoodIn wsX2_become (wsV RX2 36 RX0 yX0_become wsX0_become) := goodIn_app (goodIn_of _ (by decide +kernel)) ggX2_become_X0_become
set_option maxRecDepth 20000 in
theorem ggX2_become_X6_become : GoodIn wsX2_become wsX6_become := goodIn_r _ [26, 27, 28, 6, 7, 8, 29, 30, 31, 52, 53, 54, 55] (by decide +kernel) (by decide +kernel)
set_option maxRecDepth 20000 in
theorem gX2_become_X6_become : GoodIn wsX2_become (wsV RX2 40 RX6 yX6_become wsX6_become) := goodIn_app (goodIn_of _ (by decide +kernel)) ggX2_become_X6_become
set_option maxRecDepth 20000 in
theorem ggX2_become_X3_become : GoodIn wsX2_become wsX3_become := goodIn_r _ [36, 37, 38, 6, 7, 8, 39, 56, 57] (by decide +kernel) (by decide +kernel)
set_option maxRecDepth 20000 in
theorem gX2_become_X3_become : GoodIn wsX2_become (wsV RX2 43 RX3 yX3_become wsX3_become) := goodIn_app (goodIn_of _ (by decide +kernel)) ggX2_become_X3_become
theorem dX2_become_0 : decode cX2_become 0 = .ok (.aload_n 0, 1) := by decide +kernel
theorem dX2_become_1 : decode cX2_become 1 = .ok (.getfield 12, 3) := by decide +kernel
theorem dX2_become_4 : decode cX2_become 4 = .ok (.aload_n 1, 1) := by decide +kernel
theorem dX2_become_5 : decode cX2_become 5 = .ok (.getfield 12, 3) := by decide +kernel
theorem dX2_become_8 : decode cX2_become 8 = .ok (.invokevirtual 36, 3) := by decide +kernel
theorem dX2_become_11 : decode cX2_become 11 = .ok (.aload_n 0, 1) := by decide +kernel
theorem dX2_become_12 : decode cX2_become 12 = .ok (.getfield 21, 3) := by decide +kernel
theorem dX2_become_15 : decode cX2_become 15 = .ok (.aload_n 1, 1) := by decide +kernel
theorem dX2_become_16 : decode cX2_become 16 = .ok (.getfield 21, 3) := by decide +kernel
theorem dX2_become_19 : decode cX2_become 19 = .ok (.invokevirtual 40, 3) := by decide +kernel
theorem dX2_become_22 : decode cX2_become 22 = .ok (.aload_n 0, 1) := by decide +kernel
theorem dX2_become_23 : decode cX2_become 23 = .ok (.getfield 28, 3) := by decide +kernel
theorem dX2_become_26 : decode cX2_become 26 = .ok (.aload_n 1, 1) := by decide +kernel
theorem dX2_become_27 : decode cX2_become 27 = .ok (.getfield 28, 3) := by decide +kernel
theorem dX2_become_30 : decode cX2_become 30 = .ok (.invokevirtual 43, 3) := by decide +kernel
theorem dX2_become_33 : decode cX2_become 33 = .ok (.aload_n 1, 1) := by decide +kernel
theorem dX2_become_34 : decode cX2_become 34 = .ok (.getfield 32, 3) := by decide +kernel
theorem dX2_become_37 : decode cX2_become 37 = .ok (.iconst 0, 1) := by decide +kernel
theorem dX2_become_38 : decode cX2_become 38 = .ok (.aload_n 0, 1) := by decide +kernel
theorem dX2_become_39 : decode cX2_become 39 = .ok (.getfield 32, 3) := by decide +kernel
theorem dX2_become_42 : decode cX2_become 42 = .ok (.iconst 0, 1) := by decide +kernel
theorem dX2_become_43 : decode cX2_become 43 = .ok (.iconst 5, 1) := by decide +kernel
theorem dX2_become_44 : decode cX2_become 44 = .ok (.invokestatic 46, 3) := by decide +kernel
theorem dX2_become_47 : decode cX2_become 47 = .ok (.aload_n 0, 1) := by decide +kernel
theorem dX2_become_48 : decode cX2_become 48 = .ok (.aload_n 1, 1) := by decide +kernel
theorem dX2_become_49 : decode cX2_become 49 = .ok (.getfield 52, 3) := by decide +kernel
theorem dX2_become_52 : decode cX2_become 52 = .ok (.putfield 52, 3) := by decide +kernel
theorem dX2_become_55 : decode cX2_become 55 = .ok (.return_, 1) := by decide +kernel
theorem dX2_isDug_0 : decode cX2_isDug 0 = .ok (.aload_n 0, 1) := by decide +kernel
theorem dX2_isDug_1 : decode cX2_isDug 1 = .ok (.getfield 52, 3) := by decide +kernel
theorem dX2_isDug_4 : decode cX2_isDug 4 = .ok (.iload_n 1, 1) := by decide +kernel
theorem dX2_isDug_5 : decode cX2_isDug 5 = .ok (.ishr, 1) := by decide +kernel
theorem dX2_isDug_6 : decode cX2_isDug 6 = .ok (.iconst 1, 1) := by decide +kernel
theorem dX2_isDug_7 : decode cX2_isDug 7 = .ok (.iand, 1) := by decide +kernel
theorem dX2_isDug_8 : decode cX2_isDug 8 = .ok (.iconst 1, 1) := by decide +kernel
theorem dX2_isDug_9 : decode cX2_isDug 9 = .ok (.if_icmp .ne 7, 3) := by decide +kernel
theorem dX2_isDug_12 : decode cX2_isDug 12 = .ok (.iconst 1, 1) := by decide +kernel
theorem dX2_isDug_13 : decode cX2_isDug 13 = .ok (.goto 4, 3) := by decide +kernel
theorem dX2_isDug_16 : decode cX2_isDug 16 = .ok (.iconst 0, 1) := by decide +kernel
theorem dX2_isDug_17 : decode cX2_isDug 17 = .ok (.ireturn, 1) := by decide +kernel
set_option maxRecDepth 20000 in
theorem ggX2_dugCount_J6_bitCount_0f7a4 : GoodIn wsX2_dugCount wsJ6_bitCount_0f7a4 := goodIn_r _ [5, 6, 7, 8] (by decide +kernel) (by decide +kernel)
set_option maxRecDepth 20000 in
theorem gX2_dugCount_J6_bitCount_0f7a4 : GoodIn wsX2_dugCount (va_wsS RX2 56 yJ6_bitCount_0f7a4 wsJ6_bitCount_0f7a4) := goodIn_app (goodIn_of _ (by decide +kernel)) ggX2_dugCount_J6_bitCount_0f7a4
theorem dX2_dugCount_0 : decode cX2_dugCount 0 = .ok (.aload_n 0, 1) := by decide +kernel
theorem dX2_dugCount_1 : decode cX2_dugCount 1 = .ok (.getfield 52, 3) := by decide +kernel
theorem dX2_dugCount_4 : decode cX2_dugCount 4 = .ok (.invokestatic 56, 3) := by decide +kernel
theorem dX2_dugCount_7 : decode cX2_dugCount 7 = .ok (.ireturn, 1) := by decide +kernel
theorem dX3_init_0 : decode cX3_init 0 = .ok (.aload_n 0, 1) := by decide +kernel
theorem dX3_init_1 : decode cX3_init 1 = .ok (.invokespecial 3, 3) := by decide +kernel
theorem dX3_init_4 : decode cX3_init 4 = .ok (.aload_n 0, 1) := by decide +kernel
theorem dX3_init_5 : decode cX3_init 5 = .ok (.bipush 16, 2) := by decide +kernel
theorem dX3_init_7 : decode cX3_init 7 = .ok (.newarray .int, 2) := by decide +kernel
theorem dX3_init_9 : decode cX3_init 9 = .ok (.putfield 9, 3) := by decide +kernel
theorem dX3_init_12 : decode cX3_init 12 = .ok (.return_, 1) := by decide +kernel
theorem dX3_isLater_0 : decode cX3_isLater 0 = .ok (.aload_n 0, 1) := by decide +kernel
theorem dX3_isLater_1 : decode cX3_isLater 1 = .ok (.getfield 15, 3) := by decide +kernel
theorem dX3_isLater_4 : decode cX3_isLater 4 = .ok (.ifCond .eq 18, 3) := by decide +kernel
theorem dX3_isLater_7 : decode cX3_isLater 7 = .ok (.iload_n 1, 1) := by decide +kernel
theorem dX3_isLater_8 : decode cX3_isLater 8 = .ok (.aload_n 0, 1) := by decide +kernel
theorem dX3_isLater_9 : decode cX3_isLater 9 = .ok (.getfield 9, 3) := by decide +kernel
theorem dX3_isLater_12 : decode cX3_isLater 12 = .ok (.aload_n 0, 1) := by decide +kernel
theorem dX3_isLater_13 : decode cX3_isLater 13 = .ok (.getfield 15, 3) := by decide +kernel
theorem dX3_isLater_16 : decode cX3_isLater 16 = .ok (.iconst 1, 1) := by decide +kernel
theorem dX3_isLater_17 : decode cX3_isLater 17 = .ok (.isub, 1) := by decide +kernel
theorem dX3_isLater_18 : decode cX3_isLater 18 = .ok (.iaload, 1) := by decide +kernel
theorem dX3_isLater_19 : decode cX3_isLater 19 = .ok (.if_icmp .le 7, 3) := by decide +kernel
theorem dX3_isLater_22 : decode cX3_isLater 22 = .ok (.iconst 1, 1) := by decide +kernel
theorem dX3_isLater_23 : decode cX3_isLater 23 = .ok (.goto 4, 3) := by decide +kernel
theorem dX3_isLater_26 : decode cX3_isLater 26 = .ok (.iconst 0, 1) := by decide +kernel
theorem dX3_isLater_27 : decode cX3_isLater 27 = .ok (.ireturn, 1) := by decide +kernel
theorem dX3_add_0 : decode cX3_add 0 = .ok (.aload_n 0, 1) := by decide +kernel
theorem dX3_add_1 : decode cX3_add 1 = .ok (.getfield 9, 3) := by decide +kernel
theorem dX3_add_4 : decode cX3_add 4 = .ok (.aload_n 0, 1) := by decide +kernel
theorem dX3_add_5 : decode cX3_add 5 = .ok (.dup, 1) := by decide +kernel
theorem dX3_add_6 : decode cX3_add 6 = .ok (.getfield 15, 3) := by decide +kernel
theorem dX3_add_9 : decode cX3_add 9 = .ok (.dup_x1, 1) := by decide +kernel
theorem dX3_add_10 : decode cX3_add 10 = .ok (.iconst 1, 1) := by decide +kernel
theorem dX3_add_11 : decode cX3_add 11 = .ok (.iadd, 1) := by decide +kernel
theorem dX3_add_12 : decode cX3_add 12 = .ok (.putfield 15, 3) := by decide +kernel
theorem dX3_add_15 : decode cX3_add 15 = .ok (.iload_n 1, 1) := by decide +kernel
theorem dX3_add_16 : decode cX3_add 16 = .ok (.iastore, 1) := by decide +kernel
theorem dX3_add_17 : decode cX3_add 17 = .ok (.aload_n 0, 1) := by decide +kernel
theorem dX3_add_18 : decode cX3_add 18 = .ok (.getfield 15, 3) := by decide +kernel
theorem dX3_add_21 : decode cX3_add 21 = .ok (.ireturn, 1) := by decide +kernel
theorem dX3_become_0 : decode cX3_become 0 = .ok (.aload_n 1, 1) := by decide +kernel
theorem dX3_become_1 : decode cX3_become 1 = .ok (.getfield 9, 3) := by decide +kernel
theorem dX3_become_4 : decode cX3_become 4 = .ok (.iconst 0, 1) := by decide +kernel
theorem dX3_become_5 : decode cX3_become 5 = .ok (.aload_n 0, 1) := by decide +kernel
theorem dX3_become_6 : decode cX3_become 6 = .ok (.getfield 9, 3) := by decide +kernel
theorem dX3_become_9 : decode cX3_become 9 = .ok (.iconst 0, 1) := by decide +kernel
theorem dX3_become_10 : decode cX3_become 10 = .ok (.bipush 16, 2) := by decide +kernel
theorem dX3_become_12 : decode cX3_become 12 = .ok (.invokestatic 19, 3) := by decide +kernel
theorem dX3_become_15 : decode cX3_become 15 = .ok (.aload_n 0, 1) := by decide +kernel
theorem dX3_become_16 : decode cX3_become 16 = .ok (.aload_n 1, 1) := by decide +kernel
theorem dX3_become_17 : decode cX3_become 17 = .ok (.getfield 15, 3) := by decide +kernel
theorem dX3_become_20 : decode cX3_become 20 = .ok (.putfield 15, 3) := by decide +kernel
theorem dX3_become_23 : decode cX3_become 23 = .ok (.return_, 1) := by decide +kernel
set_option maxRecDepth 20000 in
theorem ggX3_outlook_X3_gapsAbove : GoodIn wsX3_outlook wsX3_gapsAbove := goodIn_r _ [8, 1, 2, 12, 13] (by decide +kernel) (by decide +kernel)
set_option maxRecDepth 20000 in
theorem gX3_outlook_X3_gapsAbove : GoodIn wsX3_outlook (wsV RX3 26 RX3 yX3_gapsAbove wsX3_gapsAbove) := goodIn_app (goodIn_of _ (by decide +kernel)) ggX3_outlook_X3_gapsAbove
set_option maxRecDepth 20000 in
theorem ggX3_outlook_X11_commonPart : GoodIn wsX3_outlook wsX11_commonPart := goodIn_r _ [11] (by decide +kernel) (by decide +kernel)
set_option maxRecDepth 20000 in
theorem gX3_outlook_X11_commonPart_n30 : GoodIn wsX3_outlook (wsX11_commonPart) := ggX3_outlook_X11_commonPart
theorem dX3_outlook_0 : decode cX3_outlook 0 = .ok (.aload_n 0, 1) := by decide +kernel
theorem dX3_outlook_1 : decode cX3_outlook 1 = .ok (.getfield 15, 3) := by decide +kernel
theorem dX3_outlook_4 : decode cX3_outlook 4 = .ok (.iconst 2, 1) := by decide +kernel
theorem dX3_outlook_5 : decode cX3_outlook 5 = .ok (.if_icmp .lt 18, 3) := by decide +kernel
theorem dX3_outlook_8 : decode cX3_outlook 8 = .ok (.iload_n 1, 1) := by decide +kernel
theorem dX3_outlook_9 : decode cX3_outlook 9 = .ok (.aload_n 0, 1) := by decide +kernel
theorem dX3_outlook_10 : decode cX3_outlook 10 = .ok (.getfield 9, 3) := by decide +kernel
theorem dX3_outlook_13 : decode cX3_outlook 13 = .ok (.aload_n 0, 1) := by decide +kernel
theorem dX3_outlook_14 : decode cX3_outlook 14 = .ok (.getfield 15, 3) := by decide +kernel
theorem dX3_outlook_17 : decode cX3_outlook 17 = .ok (.iconst 1, 1) := by decide +kernel
theorem dX3_outlook_18 : decode cX3_outlook 18 = .ok (.isub, 1) := by decide +kernel
theorem dX3_outlook_19 : decode cX3_outlook 19 = .ok (.iaload, 1) := by decide +kernel
theorem dX3_outlook_20 : decode cX3_outlook 20 = .ok (.if_icmp .ge 6, 3) := by decide +kernel
theorem dX3_outlook_23 : decode cX3_outlook 23 = .ok (.ldc 25, 2) := by decide +kernel
theorem dX3_outlook_25 : decode cX3_outlook 25 = .ok (.ireturn, 1) := by decide +kernel
theorem dX3_outlook_26 : decode cX3_outlook 26 = .ok (.iload_n 1, 1) := by decide +kernel
theorem dX3_outlook_27 : decode cX3_outlook 27 = .ok (.aload_n 0, 1) := by decide +kernel
theorem dX3_outlook_28 : decode cX3_outlook 28 = .ok (.getfield 9, 3) := by decide +kernel
theorem dX3_outlook_31 : decode cX3_outlook 31 = .ok (.aload_n 0, 1) := by decide +kernel
theorem dX3_outlook_32 : decode cX3_outlook 32 = .ok (.getfield 15, 3) := by decide +kernel
theorem dX3_outlook_35 : decode cX3_outlook 35 = .ok (.iconst 1, 1) := by decide +kernel
theorem dX3_outlook_36 : decode cX3_outlook 36 = .ok (.isub, 1) := by decide +kernel
theorem dX3_outlook_37 : decode cX3_outlook 37 = .ok (.iaload, 1) := by decide +kernel
theorem dX3_outlook_38 : decode cX3_outlook 38 = .ok (.isub, 1) := by decide +kernel
theorem dX3_outlook_39 : decode cX3_outlook 39 = .ok (.istore 4, 2) := by decide +kernel
theorem dX3_outlook_41 : decode cX3_outlook 41 = .ok (.aload_n 0, 1) := by decide +kernel
theorem dX3_outlook_42 : decode cX3_outlook 42 = .ok (.iload 4, 2) := by decide +kernel
theorem dX3_outlook_44 : decode cX3_outlook 44 = .ok (.invokevirtual 26, 3) := by decide +kernel
theorem dX3_outlook_47 : decode cX3_outlook 47 = .ok (.istore 5, 2) := by decide +kernel
theorem dX3_outlook_49 : decode cX3_outlook 49 = .ok (.iload 5, 2) := by decide +kernel
theorem dX3_outlook_51 : decode cX3_outlook 51 = .ok (.ifCond .ne 5, 3) := by decide +kernel
theorem dX3_outlook_54 : decode cX3_outlook 54 = .ok (.iconst 1, 1) := by decide +kernel
theorem dX3_outlook_55 : decode cX3_outlook 55 = .ok (.ireturn, 1) := by decide +kernel
theorem dX3_outlook_56 : decode cX3_outlook 56 = .ok (.iload 5, 2) := by decide +kernel
theorem dX3_outlook_58 : decode cX3_outlook 58 = .ok (.aload_n 0, 1) := by decide +kernel
theorem dX3_outlook_59 : decode cX3_outlook 59 = .ok (.iload 4, 2) := by decide +kernel
theorem dX3_outlook_61 : decode cX3_outlook 61 = .ok (.iload_n 2, 1) := by decide +kernel
theorem dX3_outlook_62 : decode cX3_outlook 62 = .ok (.iadd, 1) := by decide +kernel
theorem dX3_outlook_63 : decode cX3_outlook 63 = .ok (.invokevirtual 26, 3) := by decide +kernel
theorem dX3_outlook_66 : decode cX3_outlook 66 = .ok (.isub, 1) := by decide +kernel
theorem dX3_outlook_67 : decode cX3_outlook 67 = .ok (.istore 6, 2) := by decide +kernel
theorem dX3_outlook_69 : decode cX3_outlook 69 = .ok (.iload 6, 2) := by decide +kernel
theorem dX3_outlook_71 : decode cX3_outlook 71 = .ok (.i2l, 1) := by decide +kernel
theorem dX3_outlook_72 : decode cX3_outlook 72 = .ok (.iload 5, 2) := by decide +kernel
theorem dX3_outlook_74 : decode cX3_outlook 74 = .ok (.i2l, 1) := by decide +kernel
theorem dX3_outlook_75 : decode cX3_outlook 75 = .ok (.invokestatic 30, 3) := by decide +kernel
theorem dX3_outlook_78 : decode cX3_outlook 78 = .ok (.l2i, 1) := by decide +kernel
theorem dX3_outlook_79 : decode cX3_outlook 79 = .ok (.istore 7, 2) := by decide +kernel
theorem dX3_outlook_81 : decode cX3_outlook 81 = .ok (.iload 7, 2) := by decide +kernel
theorem dX3_outlook_83 : decode cX3_outlook 83 = .ok (.ifCond .ne 6, 3) := by decide +kernel
theorem dX3_outlook_86 : decode cX3_outlook 86 = .ok (.ldc 25, 2) := by decide +kernel
theorem dX3_outlook_88 : decode cX3_outlook 88 = .ok (.ireturn, 1) := by decide +kernel
theorem dX3_outlook_89 : decode cX3_outlook 89 = .ok (.iload_n 3, 1) := by decide +kernel
theorem dX3_outlook_90 : decode cX3_outlook 90 = .ok (.ifCond .ne 8, 3) := by decide +kernel
theorem dX3_outlook_93 : decode cX3_outlook 93 = .ok (.iload 6, 2) := by decide +kernel
theorem dX3_outlook_95 : decode cX3_outlook 95 = .ok (.goto 5, 3) := by decide +kernel
theorem dX3_outlook_98 : decode cX3_outlook 98 = .ok (.iload 5, 2) := by decide +kernel
theorem dX3_outlook_100 : decode cX3_outlook 100 = .ok (.iload 7, 2) := by decide +kernel
theorem dX3_outlook_102 : decode cX3_outlook 102 = .ok (.idiv, 1) := by decide +kernel
theorem dX3_outlook_103 : decode cX3_outlook 103 = .ok (.ireturn, 1) := by decide +kernel
theorem dX3_gapsAbove_0 : decode cX3_gapsAbove 0 = .ok (.iconst 0, 1) := by decide +kernel
theorem dX3_gapsAbove_1 : decode cX3_gapsAbove 1 = .ok (.istore_n 2, 1) := by decide +kernel
theorem dX3_gapsAbove_2 : decode cX3_gapsAbove 2 = .ok (.iconst 1, 1) := by decide +kernel
theorem dX3_gapsAbove_3 : decode cX3_gapsAbove 3 = .ok (.istore_n 3, 1) := by decide +kernel
theorem dX3_gapsAbove_4 : decode cX3_gapsAbove 4 = .ok (.iload_n 3, 1) := by decide +kernel
theorem dX3_gapsAbove_5 : decode cX3_gapsAbove 5 = .ok (.aload_n 0, 1) := by decide +kernel
theorem dX3_gapsAbove_6 : decode cX3_gapsAbove 6 = .ok (.getfield 15, 3) := by decide +kernel
theorem dX3_gapsAbove_9 : decode cX3_gapsAbove 9 = .ok (.if_icmp .ge 31, 3) := by decide +kernel
theorem dX3_gapsAbove_12 : decode cX3_gapsAbove 12 = .ok (.aload_n 0, 1) := by decide +kernel
theorem dX3_gapsAbove_13 : decode cX3_gapsAbove 13 = .ok (.getfield 9, 3) := by decide +kernel
theorem dX3_gapsAbove_16 : decode cX3_gapsAbove 16 = .ok (.iload_n 3, 1) := by decide +kernel
theorem dX3_gapsAbove_17 : decode cX3_gapsAbove 17 = .ok (.iaload, 1) := by decide +kernel
theorem dX3_gapsAbove_18 : decode cX3_gapsAbove 18 = .ok (.aload_n 0, 1) := by decide +kernel
theorem dX3_gapsAbove_19 : decode cX3_gapsAbove 19 = .ok (.getfield 9, 3) := by decide +kernel
theorem dX3_gapsAbove_22 : decode cX3_gapsAbove 22 = .ok (.iload_n 3, 1) := by decide +kernel
theorem dX3_gapsAbove_23 : decode cX3_gapsAbove 23 = .ok (.iconst 1, 1) := by decide +kernel
theorem dX3_gapsAbove_24 : decode cX3_gapsAbove 24 = .ok (.isub, 1) := by decide +kernel
theorem dX3_gapsAbove_25 : decode cX3_gapsAbove 25 = .ok (.iaload, 1) := by decide +kernel
theorem dX3_gapsAbove_26 : decode cX3_gapsAbove 26 = .ok (.isub, 1) := by decide +kernel
theorem dX3_gapsAbove_27 : decode cX3_gapsAbove 27 = .ok (.iload_n 1, 1) := by decide +kernel
theorem dX3_gapsAbove_28 : decode cX3_gapsAbove 28 = .ok (.if_icmp .le 6, 3) := by decide +kernel
theorem dX3_gapsAbove_31 : decode cX3_gapsAbove 31 = .ok (.iinc 2 1, 3) := by decide +kernel
theorem dX3_gapsAbove_34 : decode cX3_gapsAbove 34 = .ok (.iinc 3 1, 3) := by decide +kernel
theorem dX3_gapsAbove_37 : decode cX3_gapsAbove 37 = .ok (.goto (-33), 3) := by decide +kernel
theorem dX3_gapsAbove_40 : decode cX3_gapsAbove 40 = .ok (.iload_n 2, 1) := by decide +kernel
theorem dX3_gapsAbove_41 : decode cX3_gapsAbove 41 = .ok (.ireturn, 1) := by decide +kernel
theorem dX3_evenness_0 : decode cX3_evenness 0 = .ok (.aload_n 0, 1) := by decide +kernel
theorem dX3_evenness_1 : decode cX3_evenness 1 = .ok (.getfield 15, 3) := by decide +kernel
theorem dX3_evenness_4 : decode cX3_evenness 4 = .ok (.iconst 2, 1) := by decide +kernel
theorem dX3_evenness_5 : decode cX3_evenness 5 = .ok (.if_icmp .ge 6, 3) := by decide +kernel
theorem dX3_evenness_8 : decode cX3_evenness 8 = .ok (.bipush (-9), 2) := by decide +kernel
theorem dX3_evenness_10 : decode cX3_evenness 10 = .ok (.ireturn, 1) := by decide +kernel
theorem dX3_evenness_11 : decode cX3_evenness 11 = .ok (.sipush 9999, 3) := by decide +kernel
theorem dX3_evenness_14 : decode cX3_evenness 14 = .ok (.istore_n 1, 1) := by decide +kernel
theorem dX3_evenness_15 : decode cX3_evenness 15 = .ok (.iconst 0, 1) := by decide +kernel
theorem dX3_evenness_16 : decode cX3_evenness 16 = .ok (.istore_n 2, 1) := by decide +kernel
theorem dX3_evenness_17 : decode cX3_evenness 17 = .ok (.iconst 1, 1) := by decide +kernel
theorem dX3_evenness_18 : decode cX3_evenness 18 = .ok (.istore_n 3, 1) := by decide +kernel
theorem dX3_evenness_19 : decode cX3_evenness 19 = .ok (.iload_n 3, 1) := by decide +kernel
theorem dX3_evenness_20 : decode cX3_evenness 20 = .ok (.aload_n 0, 1) := by decide +kernel
theorem dX3_evenness_21 : decode cX3_evenness 21 = .ok (.getfield 15, 3) := by decide +kernel
theorem dX3_evenness_24 : decode cX3_evenness 24 = .ok (.if_icmp .ge 49, 3) := by decide +kernel
theorem dX3_evenness_27 : decode cX3_evenness 27 = .ok (.iload_n 1, 1) := by decide +kernel
theorem dX3_evenness_28 : decode cX3_evenness 28 = .ok (.aload_n 0, 1) := by decide +kernel
theorem dX3_evenness_29 : decode cX3_evenness 29 = .ok (.getfield 9, 3) := by decide +kernel
theorem dX3_evenness_32 : decode cX3_evenness 32 = .ok (.iload_n 3, 1) := by decide +kernel
theorem dX3_evenness_33 : decode cX3_evenness 33 = .ok (.iaload, 1) := by decide +kernel
theorem dX3_evenness_34 : decode cX3_evenness 34 = .ok (.aload_n 0, 1) := by decide +kernel
theorem dX3_evenness_35 : decode cX3_evenness 35 = .ok (.getfield 9, 3) := by decide +kernel
theorem dX3_evenness_38 : decode cX3_evenness 38 = .ok (.iload_n 3, 1) := by decide +kernel
theorem dX3_evenness_39 : decode cX3_evenness 39 = .ok (.iconst 1, 1) := by decide +kernel
theorem dX3_evenness_40 : decode cX3_evenness 40 = .ok (.isub, 1) := by decide +kernel
theorem dX3_evenness_41 : decode cX3_evenness 41 = .ok (.iaload, 1) := by decide +kernel
theorem dX3_evenness_42 : decode cX3_evenness 42 = .ok (.isub, 1) := by decide +kernel
theorem dX3_evenness_43 : decode cX3_evenness 43 = .ok (.invokestatic 34, 3) := by decide +kernel
theorem dX3_evenness_46 : decode cX3_evenness 46 = .ok (.istore_n 1, 1) := by decide +kernel
theorem dX3_evenness_47 : decode cX3_evenness 47 = .ok (.iload_n 2, 1) := by decide +kernel
theorem dX3_evenness_48 : decode cX3_evenness 48 = .ok (.aload_n 0, 1) := by decide +kernel
theorem dX3_evenness_49 : decode cX3_evenness 49 = .ok (.getfield 9, 3) := by decide +kernel
theorem dX3_evenness_52 : decode cX3_evenness 52 = .ok (.iload_n 3, 1) := by decide +kernel
theorem dX3_evenness_53 : decode cX3_evenness 53 = .ok (.iaload, 1) := by decide +kernel
theorem dX3_evenness_54 : decode cX3_evenness 54 = .ok (.aload_n 0, 1) := by decide +kernel
theorem dX3_evenness_55 : decode cX3_evenness 55 = .ok (.getfield 9, 3) := by decide +kernel
theorem dX3_evenness_58 : decode cX3_evenness 58 = .ok (.iload_n 3, 1) := by decide +kernel
theorem dX3_evenness_59 : decode cX3_evenness 59 = .ok (.iconst 1, 1) := by decide +kernel
theorem dX3_evenness_60 : decode cX3_evenness 60 = .ok (.isub, 1) := by decide +kernel
theorem dX3_evenness_61 : decode cX3_evenness 61 = .ok (.iaload, 1) := by decide +kernel
theorem dX3_evenness_62 : decode cX3_evenness 62 = .ok (.isub, 1) := by decide +kernel
theorem dX3_evenness_63 : decode cX3_evenness 63 = .ok (.invokestatic 40, 3) := by decide +kernel
theorem dX3_evenness_66 : decode cX3_evenness 66 = .ok (.istore_n 2, 1) := by decide +kernel
theorem dX3_evenness_67 : decode cX3_evenness 67 = .ok (.iinc 3 1, 3) := by decide +kernel
theorem dX3_evenness_70 : decode cX3_evenness 70 = .ok (.goto (-51), 3) := by decide +kernel
theorem dX3_evenness_73 : decode cX3_evenness 73 = .ok (.iload_n 2, 1) := by decide +kernel
theorem dX3_evenness_74 : decode cX3_evenness 74 = .ok (.ifCond .ne 8, 3) := by decide +kernel
theorem dX3_evenness_77 : decode cX3_evenness 77 = .ok (.bipush (-9), 2) := by decide +kernel
theorem dX3_evenness_79 : decode cX3_evenness 79 = .ok (.goto 10, 3) := by decide +kernel
theorem dX3_evenness_82 : decode cX3_evenness 82 = .ok (.sipush 1000, 3) := by decide +kernel
theorem dX3_evenness_85 : decode cX3_evenness 85 = .ok (.iload_n 1, 1) := by decide +kernel
theorem dX3_evenness_86 : decode cX3_evenness 86 = .ok (.imul, 1) := by decide +kernel
theorem dX3_evenness_87 : decode cX3_evenness 87 = .ok (.iload_n 2, 1) := by decide +kernel
theorem dX3_evenness_88 : decode cX3_evenness 88 = .ok (.idiv, 1) := by decide +kernel
theorem dX3_evenness_89 : decode cX3_evenness 89 = .ok (.ireturn, 1) := by decide +kernel
theorem dX4_init_0 : decode cX4_init 0 = .ok (.aload_n 0, 1) := by decide +kernel
theorem dX4_init_1 : decode cX4_init 1 = .ok (.invokespecial 3, 3) := by decide +kernel
theorem dX4_init_4 : decode cX4_init 4 = .ok (.aload_n 0, 1) := by decide +kernel
theorem dX4_init_5 : decode cX4_init 5 = .ok (.bipush 48, 2) := by decide +kernel
theorem dX4_init_7 : decode cX4_init 7 = .ok (.newarray .int, 2) := by decide +kernel
theorem dX4_init_9 : decode cX4_init 9 = .ok (.putfield 9, 3) := by decide +kernel
theorem dX4_init_12 : decode cX4_init 12 = .ok (.aload_n 0, 1) := by decide +kernel
theorem dX4_init_13 : decode cX4_init 13 = .ok (.bipush 48, 2) := by decide +kernel
theorem dX4_init_15 : decode cX4_init 15 = .ok (.newarray .int, 2) := by decide +kernel
theorem dX4_init_17 : decode cX4_init 17 = .ok (.putfield 15, 3) := by decide +kernel
theorem dX4_init_20 : decode cX4_init 20 = .ok (.aload_n 0, 1) := by decide +kernel
theorem dX4_init_21 : decode cX4_init 21 = .ok (.bipush 48, 2) := by decide +kernel
theorem dX4_init_23 : decode cX4_init 23 = .ok (.newarray .int, 2) := by decide +kernel
theorem dX4_init_25 : decode cX4_init 25 = .ok (.putfield 18, 3) := by decide +kernel
theorem dX4_init_28 : decode cX4_init 28 = .ok (.aload_n 0, 1) := by decide +kernel
theorem dX4_init_29 : decode cX4_init 29 = .ok (.iconst 3, 1) := by decide +kernel
theorem dX4_init_30 : decode cX4_init 30 = .ok (.putfield 21, 3) := by decide +kernel
theorem dX4_init_33 : decode cX4_init 33 = .ok (.aload_n 0, 1) := by decide +kernel
theorem dX4_init_34 : decode cX4_init 34 = .ok (.bipush 100, 2) := by decide +kernel
theorem dX4_init_36 : decode cX4_init 36 = .ok (.putfield 25, 3) := by decide +kernel
theorem dX4_init_39 : decode cX4_init 39 = .ok (.return_, 1) := by decide +kernel
set_option maxRecDepth 20000 in
theorem ggX4_isSea_X11_isCell : GoodIn wsX4_isSea wsX11_isCell := goodIn_r _ [4, 5, 6, 3, 7] (by decide +kernel) (by decide +kernel)
set_option maxRecDepth 20000 in
theorem gX4_isSea_X11_isCell_n28 : GoodIn wsX4_isSea (wsX11_isCell) := ggX4_isSea_X11_isCell
theorem dX4_isSea_0 : decode cX4_isSea 0 = .ok (.iload_n 1, 1) := by decide +kernel
theorem dX4_isSea_1 : decode cX4_isSea 1 = .ok (.invokestatic 28, 3) := by decide +kernel
theorem dX4_isSea_4 : decode cX4_isSea 4 = .ok (.ifCond .eq 16, 3) := by decide +kernel
theorem dX4_isSea_7 : decode cX4_isSea 7 = .ok (.aload_n 0, 1) := by decide +kernel
theorem dX4_isSea_8 : decode cX4_isSea 8 = .ok (.getfield 9, 3) := by decide +kernel
theorem dX4_isSea_11 : decode cX4_isSea 11 = .ok (.iload_n 1, 1) := by decide +kernel
theorem dX4_isSea_12 : decode cX4_isSea 12 = .ok (.iaload, 1) := by decide +kernel
theorem dX4_isSea_13 : decode cX4_isSea 13 = .ok (.ifCond .le 7, 3) := by decide +kernel
theorem dX4_isSea_16 : decode cX4_isSea 16 = .ok (.iconst 1, 1) := by decide +kernel
theorem dX4_isSea_17 : decode cX4_isSea 17 = .ok (.goto 4, 3) := by decide +kernel
theorem dX4_isSea_20 : decode cX4_isSea 20 = .ok (.iconst 0, 1) := by decide +kernel
theorem dX4_isSea_21 : decode cX4_isSea 21 = .ok (.ireturn, 1) := by decide +kernel
theorem dX4_seaCells_0 : decode cX4_seaCells 0 = .ok (.iconst 0, 1) := by decide +kernel
theorem dX4_seaCells_1 : decode cX4_seaCells 1 = .ok (.istore_n 1, 1) := by decide +kernel
theorem dX4_seaCells_2 : decode cX4_seaCells 2 = .ok (.iconst 0, 1) := by decide +kernel
theorem dX4_seaCells_3 : decode cX4_seaCells 3 = .ok (.istore_n 2, 1) := by decide +kernel
theorem dX4_seaCells_4 : decode cX4_seaCells 4 = .ok (.iload_n 2, 1) := by decide +kernel
theorem dX4_seaCells_5 : decode cX4_seaCells 5 = .ok (.bipush 48, 2) := by decide +kernel
theorem dX4_seaCells_7 : decode cX4_seaCells 7 = .ok (.if_icmp .ge 21, 3) := by decide +kernel
theorem dX4_seaCells_10 : decode cX4_seaCells 10 = .ok (.aload_n 0, 1) := by decide +kernel
theorem dX4_seaCells_11 : decode cX4_seaCells 11 = .ok (.getfield 9, 3) := by decide +kernel
theorem dX4_seaCells_14 : decode cX4_seaCells 14 = .ok (.iload_n 2, 1) := by decide +kernel
theorem dX4_seaCells_15 : decode cX4_seaCells 15 = .ok (.iaload, 1) := by decide +kernel
theorem dX4_seaCells_16 : decode cX4_seaCells 16 = .ok (.ifCond .le 6, 3) := by decide +kernel
theorem dX4_seaCells_19 : decode cX4_seaCells 19 = .ok (.iinc 1 1, 3) := by decide +kernel
theorem dX4_seaCells_22 : decode cX4_seaCells 22 = .ok (.iinc 2 1, 3) := by decide +kernel
theorem dX4_seaCells_25 : decode cX4_seaCells 25 = .ok (.goto (-21), 3) := by decide +kernel
theorem dX4_seaCells_28 : decode cX4_seaCells 28 = .ok (.iload_n 1, 1) := by decide +kernel
theorem dX4_seaCells_29 : decode cX4_seaCells 29 = .ok (.ireturn, 1) := by decide +kernel
set_option maxRecDepth 20000 in
theorem ggX4_become_X4_read : GoodIn wsX4_become wsX4_read := goodIn_r _ [11, 1, 12, 13, 14, 15, 16, 17, 18, 19, 20, 21, 22, 23, 29, 30, 24, 25, 26, 27, 28] (by decide +kernel) (by decide +kernel)
set_option maxRecDepth 20000 in
theorem gX4_become_X4_read : GoodIn wsX4_become (wsV RX4 32 RX4 yX4_read wsX4_read) := goodIn_app (goodIn_of _ (by decide +kernel)) ggX4_become_X4_read
theorem dX4_become_0 : decode cX4_become 0 = .ok (.aload_n 0, 1) := by decide +kernel
theorem dX4_become_1 : decode cX4_become 1 = .ok (.aload_n 1, 1) := by decide +kernel
theorem dX4_become_2 : decode cX4_become 2 = .ok (.invokevirtual 32, 3) := by decide +kernel
theorem dX4_become_5 : decode cX4_become 5 = .ok (.istore_n 2, 1) := by decide +kernel
theorem dX4_become_6 : decode cX4_become 6 = .ok (.iload_n 2, 1) := by decide +kernel
theorem dX4_become_7 : decode cX4_become 7 = .ok (.iconst (-1), 1) := by decide +kernel
theorem dX4_become_8 : decode cX4_become 8 = .ok (.if_icmp .ne 18, 3) := by decide +kernel
theorem dX4_become_11 : decode cX4_become 11 = .ok (.aload_n 0, 1) := by decide +kernel
theorem dX4_become_12 : decode cX4_become 12 = .ok (.getfield 15, 3) := by decide +kernel
theorem dX4_become_15 : decode cX4_become 15 = .ok (.iconst 0, 1) := by decide +kernel
theorem dX4_become_16 : decode cX4_become 16 = .ok (.aload_n 0, 1) := by decide +kernel
theorem dX4_become_17 : decode cX4_become 17 = .ok (.getfield 9, 3) := by decide +kernel
theorem dX4_become_20 : decode cX4_become 20 = .ok (.iconst 0, 1) := by decide +kernel
theorem dX4_become_21 : decode cX4_become 21 = .ok (.bipush 48, 2) := by decide +kernel
theorem dX4_become_23 : decode cX4_become 23 = .ok (.invokestatic 36, 3) := by decide +kernel
theorem dX4_become_26 : decode cX4_become 26 = .ok (.iload_n 2, 1) := by decide +kernel
theorem dX4_become_27 : decode cX4_become 27 = .ok (.ireturn, 1) := by decide +kernel
set_option maxRecDepth 20000 in
theorem ggX4_read_X9_byteAt : GoodIn wsX4_read wsX9_byteAt := goodIn_r _ [6, 7, 8, 14, 15] (by decide +kernel) (by decide +kernel)
set_option maxRecDepth 20000 in
theorem gX4_read_X9_byteAt : GoodIn wsX4_read (wsV RX4 47 RX9 yX9_byteAt wsX9_byteAt) := goodIn_app (goodIn_of _ (by decide +kernel)) ggX4_read_X9_byteAt
set_option maxRecDepth 20000 in
theorem ggX4_read_X9_isFigure : GoodIn wsX4_read wsX9_isFigure := goodIn_r _ [12, 13, 3, 4, 5, 6, 7, 8, 14, 15] (by decide +kernel) (by decide +kernel)
set_option maxRecDepth 20000 in
theorem gX4_read_X9_isFigure : GoodIn wsX4_read (wsV RX4 51 RX9 yX9_isFigure wsX9_isFigure) := goodIn_app (goodIn_of _ (by decide +kernel)) ggX4_read_X9_isFigure
theorem dX4_read_0 : decode cX4_read 0 = .ok (.iconst 0, 1) := by decide +kernel
theorem dX4_read_1 : decode cX4_read 1 = .ok (.istore_n 2, 1) := by decide +kernel
theorem dX4_read_2 : decode cX4_read 2 = .ok (.iconst 0, 1) := by decide +kernel
theorem dX4_read_3 : decode cX4_read 3 = .ok (.istore_n 3, 1) := by decide +kernel
theorem dX4_read_4 : decode cX4_read 4 = .ok (.iload_n 3, 1) := by decide +kernel
theorem dX4_read_5 : decode cX4_read 5 = .ok (.aload_n 1, 1) := by decide +kernel
theorem dX4_read_6 : decode cX4_read 6 = .ok (.getfield 42, 3) := by decide +kernel
theorem dX4_read_9 : decode cX4_read 9 = .ok (.if_icmp .ge 91, 3) := by decide +kernel
theorem dX4_read_12 : decode cX4_read 12 = .ok (.aload_n 1, 1) := by decide +kernel
theorem dX4_read_13 : decode cX4_read 13 = .ok (.iload_n 3, 1) := by decide +kernel
theorem dX4_read_14 : decode cX4_read 14 = .ok (.invokevirtual 47, 3) := by decide +kernel
theorem dX4_read_17 : decode cX4_read 17 = .ok (.bipush 32, 2) := by decide +kernel
theorem dX4_read_19 : decode cX4_read 19 = .ok (.if_icmp .ne 6, 3) := by decide +kernel
theorem dX4_read_22 : decode cX4_read 22 = .ok (.goto 72, 3) := by decide +kernel
theorem dX4_read_25 : decode cX4_read 25 = .ok (.iload_n 2, 1) := by decide +kernel
theorem dX4_read_26 : decode cX4_read 26 = .ok (.bipush 54, 2) := by decide +kernel
theorem dX4_read_28 : decode cX4_read 28 = .ok (.if_icmp .lt 5, 3) := by decide +kernel
theorem dX4_read_31 : decode cX4_read 31 = .ok (.iload_n 3, 1) := by decide +kernel
theorem dX4_read_32 : decode cX4_read 32 = .ok (.ireturn, 1) := by decide +kernel
theorem dX4_read_33 : decode cX4_read 33 = .ok (.iload_n 2, 1) := by decide +kernel
theorem dX4_read_34 : decode cX4_read 34 = .ok (.bipush 9, 2) := by decide +kernel
theorem dX4_read_36 : decode cX4_read 36 = .ok (.irem, 1) := by decide +kernel
theorem dX4_read_37 : decode cX4_read 37 = .ok (.istore 4, 2) := by decide +kernel
theorem dX4_read_39 : decode cX4_read 39 = .ok (.iload 4, 2) := by decide +kernel
theorem dX4_read_41 : decode cX4_read 41 = .ok (.bipush 8, 2) := by decide +kernel
theorem dX4_read_43 : decode cX4_read 43 = .ok (.if_icmp .ne 15, 3) := by decide +kernel
theorem dX4_read_46 : decode cX4_read 46 = .ok (.aload_n 1, 1) := by decide +kernel
theorem dX4_read_47 : decode cX4_read 47 = .ok (.iload_n 3, 1) := by decide +kernel
theorem dX4_read_48 : decode cX4_read 48 = .ok (.invokevirtual 47, 3) := by decide +kernel
theorem dX4_read_51 : decode cX4_read 51 = .ok (.bipush 59, 2) := by decide +kernel
theorem dX4_read_53 : decode cX4_read 53 = .ok (.if_icmp .eq 38, 3) := by decide +kernel
theorem dX4_read_56 : decode cX4_read 56 = .ok (.iload_n 3, 1) := by decide +kernel
theorem dX4_read_57 : decode cX4_read 57 = .ok (.ireturn, 1) := by decide +kernel
theorem dX4_read_58 : decode cX4_read 58 = .ok (.aload_n 1, 1) := by decide +kernel
theorem dX4_read_59 : decode cX4_read 59 = .ok (.iload_n 3, 1) := by decide +kernel
theorem dX4_read_60 : decode cX4_read 60 = .ok (.invokevirtual 51, 3) := by decide +kernel
theorem dX4_read_63 : decode cX4_read 63 = .ok (.ifCond .ne 5, 3) := by decide +kernel
theorem dX4_read_66 : decode cX4_read 66 = .ok (.iload_n 3, 1) := by decide +kernel
theorem dX4_read_67 : decode cX4_read 67 = .ok (.ireturn, 1) := by decide +kernel
theorem dX4_read_68 : decode cX4_read 68 = .ok (.aload_n 0, 1) := by decide +kernel
theorem dX4_read_69 : decode cX4_read 69 = .ok (.getfield 15, 3) := by decide +kernel
theorem dX4_read_72 : decode cX4_read 72 = .ok (.iload_n 2, 1) := by decide +kernel
theorem dX4_read_73 : decode cX4_read 73 = .ok (.bipush 9, 2) := by decide +kernel
theorem dX4_read_75 : decode cX4_read 75 = .ok (.idiv, 1) := by decide +kernel
theorem dX4_read_76 : decode cX4_read 76 = .ok (.bipush 8, 2) := by decide +kernel
theorem dX4_read_78 : decode cX4_read 78 = .ok (.imul, 1) := by decide +kernel
theorem dX4_read_79 : decode cX4_read 79 = .ok (.iload 4, 2) := by decide +kernel
theorem dX4_read_81 : decode cX4_read 81 = .ok (.iadd, 1) := by decide +kernel
theorem dX4_read_82 : decode cX4_read 82 = .ok (.aload_n 1, 1) := by decide +kernel
theorem dX4_read_83 : decode cX4_read 83 = .ok (.iload_n 3, 1) := by decide +kernel
theorem dX4_read_84 : decode cX4_read 84 = .ok (.invokevirtual 47, 3) := by decide +kernel
theorem dX4_read_87 : decode cX4_read 87 = .ok (.bipush 48, 2) := by decide +kernel
theorem dX4_read_89 : decode cX4_read 89 = .ok (.isub, 1) := by decide +kernel
theorem dX4_read_90 : decode cX4_read 90 = .ok (.iastore, 1) := by decide +kernel
theorem dX4_read_91 : decode cX4_read 91 = .ok (.iinc 2 1, 3) := by decide +kernel
theorem dX4_read_94 : decode cX4_read 94 = .ok (.iinc 3 1, 3) := by decide +kernel
theorem dX4_read_97 : decode cX4_read 97 = .ok (.goto (-93), 3) := by decide +kernel
theorem dX4_read_100 : decode cX4_read 100 = .ok (.iload_n 2, 1) := by decide +kernel
theorem dX4_read_101 : decode cX4_read 101 = .ok (.bipush 54, 2) := by decide +kernel
theorem dX4_read_103 : decode cX4_read 103 = .ok (.if_icmp .ge 10, 3) := by decide +kernel
theorem dX4_read_106 : decode cX4_read 106 = .ok (.aload_n 1, 1) := by decide +kernel
theorem dX4_read_107 : decode cX4_read 107 = .ok (.getfield 42, 3) := by decide +kernel
theorem dX4_read_110 : decode cX4_read 110 = .ok (.goto 4, 3) := by decide +kernel
theorem dX4_read_113 : decode cX4_read 113 = .ok (.iconst (-1), 1) := by decide +kernel
theorem dX4_read_114 : decode cX4_read 114 = .ok (.ireturn, 1) := by decide +kernel
set_option maxRecDepth 20000 in
theorem ggX4_travel_X4_measureTo : GoodIn wsX4_travel wsX4_measureTo := goodIn_r _ [6, 7, 8, 9, 10, 5, 11, 12, 13, 14, 15, 16, 17, 18, 19, 20, 21] (by decide +kernel) (by decide +kernel)
set_option maxRecDepth 20000 in
theorem gX4_travel_X4_measureTo : GoodIn wsX4_travel (wsV RX4 54 RX4 yX4_measureTo wsX4_measureTo) := goodIn_app (goodIn_of _ (by decide +kernel)) ggX4_travel_X4_measureTo
theorem dX4_travel_0 : decode cX4_travel 0 = .ok (.aload_n 0, 1) := by decide +kernel
theorem dX4_travel_1 : decode cX4_travel 1 = .ok (.iload_n 2, 1) := by decide +kernel
theorem dX4_travel_2 : decode cX4_travel 2 = .ok (.aload_n 0, 1) := by decide +kernel
theorem dX4_travel_3 : decode cX4_travel 3 = .ok (.getfield 18, 3) := by decide +kernel
theorem dX4_travel_6 : decode cX4_travel 6 = .ok (.invokevirtual 54, 3) := by decide +kernel
theorem dX4_travel_9 : decode cX4_travel 9 = .ok (.aload_n 0, 1) := by decide +kernel
theorem dX4_travel_10 : decode cX4_travel 10 = .ok (.getfield 18, 3) := by decide +kernel
theorem dX4_travel_13 : decode cX4_travel 13 = .ok (.iload_n 1, 1) := by decide +kernel
theorem dX4_travel_14 : decode cX4_travel 14 = .ok (.iaload, 1) := by decide +kernel
theorem dX4_travel_15 : decode cX4_travel 15 = .ok (.ireturn, 1) := by decide +kernel
set_option maxRecDepth 20000 in
theorem ggX4_soonest_X4_measureTo : GoodIn wsX4_soonest wsX4_measureTo := goodIn_r _ [6, 7, 8, 9, 10, 5, 11, 12, 13, 14, 15, 16, 17, 18, 19, 20, 21] (by decide +kernel) (by decide +kernel)
set_option maxRecDepth 20000 in
theorem gX4_soonest_X4_measureTo : GoodIn wsX4_soonest (wsV RX4 54 RX4 yX4_measureTo wsX4_measureTo) := goodIn_app (goodIn_of _ (by decide +kernel)) ggX4_soonest_X4_measureTo
theorem dX4_soonest_0 : decode cX4_soonest 0 = .ok (.aload_n 0, 1) := by decide +kernel
theorem dX4_soonest_1 : decode cX4_soonest 1 = .ok (.iload_n 1, 1) := by decide +kernel
theorem dX4_soonest_2 : decode cX4_soonest 2 = .ok (.aload_n 0, 1) := by decide +kernel
theorem dX4_soonest_3 : decode cX4_soonest 3 = .ok (.getfield 18, 3) := by decide +kernel
theorem dX4_soonest_6 : decode cX4_soonest 6 = .ok (.invokevirtual 54, 3) := by decide +kernel
theorem dX4_soonest_9 : decode cX4_soonest 9 = .ok (.bipush (-9), 2) := by decide +kernel
theorem dX4_soonest_11 : decode cX4_soonest 11 = .ok (.istore 4, 2) := by decide +kernel
theorem dX4_soonest_13 : decode cX4_soonest 13 = .ok (.iconst 0, 1) := by decide +kernel
theorem dX4_soonest_14 : decode cX4_soonest 14 = .ok (.istore 5, 2) := by decide +kernel
theorem dX4_soonest_16 : decode cX4_soonest 16 = .ok (.iload 5, 2) := by decide +kernel
theorem dX4_soonest_18 : decode cX4_soonest 18 = .ok (.bipush 48, 2) := by decide +kernel
theorem dX4_soonest_20 : decode cX4_soonest 20 = .ok (.if_icmp .ge 63, 3) := by decide +kernel
theorem dX4_soonest_23 : decode cX4_soonest 23 = .ok (.lload_n 2, 1) := by decide +kernel
theorem dX4_soonest_24 : decode cX4_soonest 24 = .ok (.iload 5, 2) := by decide +kernel
theorem dX4_soonest_26 : decode cX4_soonest 26 = .ok (.lushr, 1) := by decide +kernel
theorem dX4_soonest_27 : decode cX4_soonest 27 = .ok (.lconst 1, 1) := by decide +kernel
theorem dX4_soonest_28 : decode cX4_soonest 28 = .ok (.land, 1) := by decide +kernel
theorem dX4_soonest_29 : decode cX4_soonest 29 = .ok (.lconst 0, 1) := by decide +kernel
theorem dX4_soonest_30 : decode cX4_soonest 30 = .ok (.lcmp, 1) := by decide +kernel
theorem dX4_soonest_31 : decode cX4_soonest 31 = .ok (.ifCond .eq 46, 3) := by decide +kernel
theorem dX4_soonest_34 : decode cX4_soonest 34 = .ok (.aload_n 0, 1) := by decide +kernel
theorem dX4_soonest_35 : decode cX4_soonest 35 = .ok (.getfield 18, 3) := by decide +kernel
theorem dX4_soonest_38 : decode cX4_soonest 38 = .ok (.iload 5, 2) := by decide +kernel
theorem dX4_soonest_40 : decode cX4_soonest 40 = .ok (.iaload, 1) := by decide +kernel
theorem dX4_soonest_41 : decode cX4_soonest 41 = .ok (.bipush (-9), 2) := by decide +kernel
theorem dX4_soonest_43 : decode cX4_soonest 43 = .ok (.if_icmp .ne 6, 3) := by decide +kernel
theorem dX4_soonest_46 : decode cX4_soonest 46 = .ok (.goto 31, 3) := by decide +kernel
theorem dX4_soonest_49 : decode cX4_soonest 49 = .ok (.iload 4, 2) := by decide +kernel
theorem dX4_soonest_51 : decode cX4_soonest 51 = .ok (.bipush (-9), 2) := by decide +kernel
theorem dX4_soonest_53 : decode cX4_soonest 53 = .ok (.if_icmp .eq 15, 3) := by decide +kernel
theorem dX4_soonest_56 : decode cX4_soonest 56 = .ok (.aload_n 0, 1) := by decide +kernel
theorem dX4_soonest_57 : decode cX4_soonest 57 = .ok (.getfield 18, 3) := by decide +kernel
theorem dX4_soonest_60 : decode cX4_soonest 60 = .ok (.iload 5, 2) := by decide +kernel
theorem dX4_soonest_62 : decode cX4_soonest 62 = .ok (.iaload, 1) := by decide +kernel
theorem dX4_soonest_63 : decode cX4_soonest 63 = .ok (.iload 4, 2) := by decide +kernel
theorem dX4_soonest_65 : decode cX4_soonest 65 = .ok (.if_icmp .ge 12, 3) := by decide +kernel
theorem dX4_soonest_68 : decode cX4_soonest 68 = .ok (.aload_n 0, 1) := by decide +kernel
theorem dX4_soonest_69 : decode cX4_soonest 69 = .ok (.getfield 18, 3) := by decide +kernel
theorem dX4_soonest_72 : decode cX4_soonest 72 = .ok (.iload 5, 2) := by decide +kernel
theorem dX4_soonest_74 : decode cX4_soonest 74 = .ok (.iaload, 1) := by decide +kernel
theorem dX4_soonest_75 : decode cX4_soonest 75 = .ok (.istore 4, 2) := by decide +kernel
theorem dX4_soonest_77 : decode cX4_soonest 77 = .ok (.iinc 5 1, 3) := by decide +kernel
theorem dX4_soonest_80 : decode cX4_soonest 80 = .ok (.goto (-64), 3) := by decide +kernel
theorem dX4_soonest_83 : decode cX4_soonest 83 = .ok (.iload 4, 2) := by decide +kernel
theorem dX4_soonest_85 : decode cX4_soonest 85 = .ok (.ireturn, 1) := by decide +kernel
theorem dX4_swell_0 : decode cX4_swell 0 = .ok (.aload_n 0, 1) := by decide +kernel
theorem dX4_swell_1 : decode cX4_swell 1 = .ok (.getfield 25, 3) := by decide +kernel
theorem dX4_swell_4 : decode cX4_swell 4 = .ok (.iload_n 1, 1) := by decide +kernel
theorem dX4_swell_5 : decode cX4_swell 5 = .ok (.iadd, 1) := by decide +kernel
theorem dX4_swell_6 : decode cX4_swell 6 = .ok (.istore 4, 2) := by decide +kernel
theorem dX4_swell_8 : decode cX4_swell 8 = .ok (.iload_n 1, 1) := by decide +kernel
theorem dX4_swell_9 : decode cX4_swell 9 = .ok (.ifCond .lt 8, 3) := by decide +kernel
theorem dX4_swell_12 : decode cX4_swell 12 = .ok (.iload 4, 2) := by decide +kernel
theorem dX4_swell_14 : decode cX4_swell 14 = .ok (.ifCond .gt 6, 3) := by decide +kernel
theorem dX4_swell_17 : decode cX4_swell 17 = .ok (.bipush (-9), 2) := by decide +kernel
theorem dX4_swell_19 : decode cX4_swell 19 = .ok (.ireturn, 1) := by decide +kernel
theorem dX4_swell_20 : decode cX4_swell 20 = .ok (.iload_n 2, 1) := by decide +kernel
theorem dX4_swell_21 : decode cX4_swell 21 = .ok (.aload_n 0, 1) := by decide +kernel
theorem dX4_swell_22 : decode cX4_swell 22 = .ok (.getfield 25, 3) := by decide +kernel
theorem dX4_swell_25 : decode cX4_swell 25 = .ok (.imul, 1) := by decide +kernel
theorem dX4_swell_26 : decode cX4_swell 26 = .ok (.iload 4, 2) := by decide +kernel
theorem dX4_swell_28 : decode cX4_swell 28 = .ok (.idiv, 1) := by decide +kernel
theorem dX4_swell_29 : decode cX4_swell 29 = .ok (.istore 5, 2) := by decide +kernel
theorem dX4_swell_31 : decode cX4_swell 31 = .ok (.aload_n 0, 1) := by decide +kernel
theorem dX4_swell_32 : decode cX4_swell 32 = .ok (.getfield 9, 3) := by decide +kernel
theorem dX4_swell_35 : decode cX4_swell 35 = .ok (.iload_n 3, 1) := by decide +kernel
theorem dX4_swell_36 : decode cX4_swell 36 = .ok (.iaload, 1) := by decide +kernel
theorem dX4_swell_37 : decode cX4_swell 37 = .ok (.iconst 2, 1) := by decide +kernel
theorem dX4_swell_38 : decode cX4_swell 38 = .ok (.if_icmp .gt 10, 3) := by decide +kernel
theorem dX4_swell_41 : decode cX4_swell 41 = .ok (.iconst 2, 1) := by decide +kernel
theorem dX4_swell_42 : decode cX4_swell 42 = .ok (.iload 5, 2) := by decide +kernel
theorem dX4_swell_44 : decode cX4_swell 44 = .ok (.imul, 1) := by decide +kernel
theorem dX4_swell_45 : decode cX4_swell 45 = .ok (.goto 5, 3) := by decide +kernel
theorem dX4_swell_48 : decode cX4_swell 48 = .ok (.iload 5, 2) := by decide +kernel
theorem dX4_swell_50 : decode cX4_swell 50 = .ok (.ireturn, 1) := by decide +kernel
set_option maxRecDepth 20000 in
theorem ggX4_measureTo_X4_sweep : GoodIn wsX4_measureTo wsX4_sweep := goodIn_r _ [6, 1, 7, 8, 9, 5, 10, 11, 12, 13, 14, 15, 16] (by decide +kernel) (by decide +kernel)
set_option maxRecDepth 20000 in
theorem gX4_measureTo_X4_sweep : GoodIn wsX4_measureTo (wsV RX4 58 RX4 yX4_sweep wsX4_sweep) := goodIn_app (goodIn_of _ (by decide +kernel)) ggX4_measureTo_X4_sweep
theorem dX4_measureTo_0 : decode cX4_measureTo 0 = .ok (.iconst 0, 1) := by decide +kernel
theorem dX4_measureTo_1 : decode cX4_measureTo 1 = .ok (.istore_n 3, 1) := by decide +kernel
theorem dX4_measureTo_2 : decode cX4_measureTo 2 = .ok (.iload_n 3, 1) := by decide +kernel
theorem dX4_measureTo_3 : decode cX4_measureTo 3 = .ok (.bipush 48, 2) := by decide +kernel
theorem dX4_measureTo_5 : decode cX4_measureTo 5 = .ok (.if_icmp .ge 14, 3) := by decide +kernel
theorem dX4_measureTo_8 : decode cX4_measureTo 8 = .ok (.aload_n 2, 1) := by decide +kernel
theorem dX4_measureTo_9 : decode cX4_measureTo 9 = .ok (.iload_n 3, 1) := by decide +kernel
theorem dX4_measureTo_10 : decode cX4_measureTo 10 = .ok (.bipush (-9), 2) := by decide +kernel
theorem dX4_measureTo_12 : decode cX4_measureTo 12 = .ok (.iastore, 1) := by decide +kernel
theorem dX4_measureTo_13 : decode cX4_measureTo 13 = .ok (.iinc 3 1, 3) := by decide +kernel
theorem dX4_measureTo_16 : decode cX4_measureTo 16 = .ok (.goto (-14), 3) := by decide +kernel
theorem dX4_measureTo_19 : decode cX4_measureTo 19 = .ok (.aload_n 0, 1) := by decide +kernel
theorem dX4_measureTo_20 : decode cX4_measureTo 20 = .ok (.getfield 9, 3) := by decide +kernel
theorem dX4_measureTo_23 : decode cX4_measureTo 23 = .ok (.iload_n 1, 1) := by decide +kernel
theorem dX4_measureTo_24 : decode cX4_measureTo 24 = .ok (.iaload, 1) := by decide +kernel
theorem dX4_measureTo_25 : decode cX4_measureTo 25 = .ok (.ifCond .ne 4, 3) := by decide +kernel
theorem dX4_measureTo_28 : decode cX4_measureTo 28 = .ok (.return_, 1) := by decide +kernel
theorem dX4_measureTo_29 : decode cX4_measureTo 29 = .ok (.aload_n 2, 1) := by decide +kernel
theorem dX4_measureTo_30 : decode cX4_measureTo 30 = .ok (.iload_n 1, 1) := by decide +kernel
theorem dX4_measureTo_31 : decode cX4_measureTo 31 = .ok (.iconst 0, 1) := by decide +kernel
theorem dX4_measureTo_32 : decode cX4_measureTo 32 = .ok (.iastore, 1) := by decide +kernel
theorem dX4_measureTo_33 : decode cX4_measureTo 33 = .ok (.iconst 1, 1) := by decide +kernel
theorem dX4_measureTo_34 : decode cX4_measureTo 34 = .ok (.istore_n 3, 1) := by decide +kernel
theorem dX4_measureTo_35 : decode cX4_measureTo 35 = .ok (.iconst 0, 1) := by decide +kernel
theorem dX4_measureTo_36 : decode cX4_measureTo 36 = .ok (.istore 4, 2) := by decide +kernel
theorem dX4_measureTo_38 : decode cX4_measureTo 38 = .ok (.iload 4, 2) := by decide +kernel
theorem dX4_measureTo_40 : decode cX4_measureTo 40 = .ok (.bipush 48, 2) := by decide +kernel
theorem dX4_measureTo_42 : decode cX4_measureTo 42 = .ok (.if_icmp .ge 19, 3) := by decide +kernel
theorem dX4_measureTo_45 : decode cX4_measureTo 45 = .ok (.iload_n 3, 1) := by decide +kernel
theorem dX4_measureTo_46 : decode cX4_measureTo 46 = .ok (.ifCond .eq 15, 3) := by decide +kernel
theorem dX4_measureTo_49 : decode cX4_measureTo 49 = .ok (.aload_n 0, 1) := by decide +kernel
theorem dX4_measureTo_50 : decode cX4_measureTo 50 = .ok (.aload_n 2, 1) := by decide +kernel
theorem dX4_measureTo_51 : decode cX4_measureTo 51 = .ok (.invokevirtual 58, 3) := by decide +kernel
theorem dX4_measureTo_54 : decode cX4_measureTo 54 = .ok (.istore_n 3, 1) := by decide +kernel
theorem dX4_measureTo_55 : decode cX4_measureTo 55 = .ok (.iinc 4 1, 3) := by decide +kernel
theorem dX4_measureTo_58 : decode cX4_measureTo 58 = .ok (.goto (-20), 3) := by decide +kernel
theorem dX4_measureTo_61 : decode cX4_measureTo 61 = .ok (.return_, 1) := by decide +kernel
set_option maxRecDepth 20000 in
theorem ggX4_sweep_X4_shorten : GoodIn wsX4_sweep wsX4_shorten := goodIn_r _ [6, 7, 1, 8, 9, 10, 11, 12] (by decide +kernel) (by decide +kernel)
set_option maxRecDepth 20000 in
theorem gX4_sweep_X4_shorten : GoodIn wsX4_sweep (wsV RX4 62 RX4 yX4_shorten wsX4_shorten) := goodIn_app (goodIn_of _ (by decide +kernel)) ggX4_sweep_X4_shorten
theorem dX4_sweep_0 : decode cX4_sweep 0 = .ok (.iconst 0, 1) := by decide +kernel
theorem dX4_sweep_1 : decode cX4_sweep 1 = .ok (.istore_n 2, 1) := by decide +kernel
theorem dX4_sweep_2 : decode cX4_sweep 2 = .ok (.iconst 0, 1) := by decide +kernel
theorem dX4_sweep_3 : decode cX4_sweep 3 = .ok (.istore_n 3, 1) := by decide +kernel
theorem dX4_sweep_4 : decode cX4_sweep 4 = .ok (.iload_n 3, 1) := by decide +kernel
theorem dX4_sweep_5 : decode cX4_sweep 5 = .ok (.bipush 48, 2) := by decide +kernel
theorem dX4_sweep_7 : decode cX4_sweep 7 = .ok (.if_icmp .ge 109, 3) := by decide +kernel
theorem dX4_sweep_10 : decode cX4_sweep 10 = .ok (.aload_n 0, 1) := by decide +kernel
theorem dX4_sweep_11 : decode cX4_sweep 11 = .ok (.getfield 9, 3) := by decide +kernel
theorem dX4_sweep_14 : decode cX4_sweep 14 = .ok (.iload_n 3, 1) := by decide +kernel
theorem dX4_sweep_15 : decode cX4_sweep 15 = .ok (.iaload, 1) := by decide +kernel
theorem dX4_sweep_16 : decode cX4_sweep 16 = .ok (.ifCond .ne 6, 3) := by decide +kernel
theorem dX4_sweep_19 : decode cX4_sweep 19 = .ok (.goto 91, 3) := by decide +kernel
theorem dX4_sweep_22 : decode cX4_sweep 22 = .ok (.iload_n 3, 1) := by decide +kernel
theorem dX4_sweep_23 : decode cX4_sweep 23 = .ok (.bipush 8, 2) := by decide +kernel
theorem dX4_sweep_25 : decode cX4_sweep 25 = .ok (.irem, 1) := by decide +kernel
theorem dX4_sweep_26 : decode cX4_sweep 26 = .ok (.istore 4, 2) := by decide +kernel
theorem dX4_sweep_28 : decode cX4_sweep 28 = .ok (.iload_n 3, 1) := by decide +kernel
theorem dX4_sweep_29 : decode cX4_sweep 29 = .ok (.bipush 8, 2) := by decide +kernel
theorem dX4_sweep_31 : decode cX4_sweep 31 = .ok (.if_icmp .lt 18, 3) := by decide +kernel
theorem dX4_sweep_34 : decode cX4_sweep 34 = .ok (.aload_n 0, 1) := by decide +kernel
theorem dX4_sweep_35 : decode cX4_sweep 35 = .ok (.aload_n 1, 1) := by decide +kernel
theorem dX4_sweep_36 : decode cX4_sweep 36 = .ok (.iload_n 3, 1) := by decide +kernel
theorem dX4_sweep_37 : decode cX4_sweep 37 = .ok (.iload_n 3, 1) := by decide +kernel
theorem dX4_sweep_38 : decode cX4_sweep 38 = .ok (.bipush 8, 2) := by decide +kernel
theorem dX4_sweep_40 : decode cX4_sweep 40 = .ok (.isub, 1) := by decide +kernel
theorem dX4_sweep_41 : decode cX4_sweep 41 = .ok (.invokevirtual 62, 3) := by decide +kernel
theorem dX4_sweep_44 : decode cX4_sweep 44 = .ok (.ifCond .eq 5, 3) := by decide +kernel
theorem dX4_sweep_47 : decode cX4_sweep 47 = .ok (.iconst 1, 1) := by decide +kernel
theorem dX4_sweep_48 : decode cX4_sweep 48 = .ok (.istore_n 2, 1) := by decide +kernel
theorem dX4_sweep_49 : decode cX4_sweep 49 = .ok (.iload_n 3, 1) := by decide +kernel
theorem dX4_sweep_50 : decode cX4_sweep 50 = .ok (.bipush 40, 2) := by decide +kernel
theorem dX4_sweep_52 : decode cX4_sweep 52 = .ok (.if_icmp .ge 18, 3) := by decide +kernel
theorem dX4_sweep_55 : decode cX4_sweep 55 = .ok (.aload_n 0, 1) := by decide +kernel
theorem dX4_sweep_56 : decode cX4_sweep 56 = .ok (.aload_n 1, 1) := by decide +kernel
theorem dX4_sweep_57 : decode cX4_sweep 57 = .ok (.iload_n 3, 1) := by decide +kernel
theorem dX4_sweep_58 : decode cX4_sweep 58 = .ok (.iload_n 3, 1) := by decide +kernel
theorem dX4_sweep_59 : decode cX4_sweep 59 = .ok (.bipush 8, 2) := by decide +kernel
theorem dX4_sweep_61 : decode cX4_sweep 61 = .ok (.iadd, 1) := by decide +kernel
theorem dX4_sweep_62 : decode cX4_sweep 62 = .ok (.invokevirtual 62, 3) := by decide +kernel
theorem dX4_sweep_65 : decode cX4_sweep 65 = .ok (.ifCond .eq 5, 3) := by decide +kernel
theorem dX4_sweep_68 : decode cX4_sweep 68 = .ok (.iconst 1, 1) := by decide +kernel
theorem dX4_sweep_69 : decode cX4_sweep 69 = .ok (.istore_n 2, 1) := by decide +kernel
theorem dX4_sweep_70 : decode cX4_sweep 70 = .ok (.iload 4, 2) := by decide +kernel
theorem dX4_sweep_72 : decode cX4_sweep 72 = .ok (.ifCond .le 17, 3) := by decide +kernel
theorem dX4_sweep_75 : decode cX4_sweep 75 = .ok (.aload_n 0, 1) := by decide +kernel
theorem dX4_sweep_76 : decode cX4_sweep 76 = .ok (.aload_n 1, 1) := by decide +kernel
theorem dX4_sweep_77 : decode cX4_sweep 77 = .ok (.iload_n 3, 1) := by decide +kernel
theorem dX4_sweep_78 : decode cX4_sweep 78 = .ok (.iload_n 3, 1) := by decide +kernel
theorem dX4_sweep_79 : decode cX4_sweep 79 = .ok (.iconst 1, 1) := by decide +kernel
theorem dX4_sweep_80 : decode cX4_sweep 80 = .ok (.isub, 1) := by decide +kernel
theorem dX4_sweep_81 : decode cX4_sweep 81 = .ok (.invokevirtual 62, 3) := by decide +kernel
theorem dX4_sweep_84 : decode cX4_sweep 84 = .ok (.ifCond .eq 5, 3) := by decide +kernel
theorem dX4_sweep_87 : decode cX4_sweep 87 = .ok (.iconst 1, 1) := by decide +kernel
theorem dX4_sweep_88 : decode cX4_sweep 88 = .ok (.istore_n 2, 1) := by decide +kernel
theorem dX4_sweep_89 : decode cX4_sweep 89 = .ok (.iload 4, 2) := by decide +kernel
theorem dX4_sweep_91 : decode cX4_sweep 91 = .ok (.bipush 7, 2) := by decide +kernel
theorem dX4_sweep_93 : decode cX4_sweep 93 = .ok (.if_icmp .ge 17, 3) := by decide +kernel
theorem dX4_sweep_96 : decode cX4_sweep 96 = .ok (.aload_n 0, 1) := by decide +kernel
theorem dX4_sweep_97 : decode cX4_sweep 97 = .ok (.aload_n 1, 1) := by decide +kernel
theorem dX4_sweep_98 : decode cX4_sweep 98 = .ok (.iload_n 3, 1) := by decide +kernel
theorem dX4_sweep_99 : decode cX4_sweep 99 = .ok (.iload_n 3, 1) := by decide +kernel
theorem dX4_sweep_100 : decode cX4_sweep 100 = .ok (.iconst 1, 1) := by decide +kernel
theorem dX4_sweep_101 : decode cX4_sweep 101 = .ok (.iadd, 1) := by decide +kernel
theorem dX4_sweep_102 : decode cX4_sweep 102 = .ok (.invokevirtual 62, 3) := by decide +kernel
theorem dX4_sweep_105 : decode cX4_sweep 105 = .ok (.ifCond .eq 5, 3) := by decide +kernel
theorem dX4_sweep_108 : decode cX4_sweep 108 = .ok (.iconst 1, 1) := by decide +kernel
theorem dX4_sweep_109 : decode cX4_sweep 109 = .ok (.istore_n 2, 1) := by decide +kernel
theorem dX4_sweep_110 : decode cX4_sweep 110 = .ok (.iinc 3 1, 3) := by decide +kernel
theorem dX4_sweep_113 : decode cX4_sweep 113 = .ok (.goto (-109), 3) := by decide +kernel
theorem dX4_sweep_116 : decode cX4_sweep 116 = .ok (.iload_n 2, 1) := by decide +kernel
theorem dX4_sweep_117 : decode cX4_sweep 117 = .ok (.ireturn, 1) := by decide +kernel
theorem dX4_shorten_0 : decode cX4_shorten 0 = .ok (.aload_n 1, 1) := by decide +kernel
theorem dX4_shorten_1 : decode cX4_shorten 1 = .ok (.iload_n 3, 1) := by decide +kernel
theorem dX4_shorten_2 : decode cX4_shorten 2 = .ok (.iaload, 1) := by decide +kernel
theorem dX4_shorten_3 : decode cX4_shorten 3 = .ok (.bipush (-9), 2) := by decide +kernel
theorem dX4_shorten_5 : decode cX4_shorten 5 = .ok (.if_icmp .ne 5, 3) := by decide +kernel
theorem dX4_shorten_8 : decode cX4_shorten 8 = .ok (.iconst 0, 1) := by decide +kernel
theorem dX4_shorten_9 : decode cX4_shorten 9 = .ok (.ireturn, 1) := by decide +kernel
theorem dX4_shorten_10 : decode cX4_shorten 10 = .ok (.aload_n 1, 1) := by decide +kernel
theorem dX4_shorten_11 : decode cX4_shorten 11 = .ok (.iload_n 3, 1) := by decide +kernel
theorem dX4_shorten_12 : decode cX4_shorten 12 = .ok (.iaload, 1) := by decide +kernel
theorem dX4_shorten_13 : decode cX4_shorten 13 = .ok (.aload_n 0, 1) := by decide +kernel
theorem dX4_shorten_14 : decode cX4_shorten 14 = .ok (.getfield 21, 3) := by decide +kernel
theorem dX4_shorten_17 : decode cX4_shorten 17 = .ok (.bipush 10, 2) := by decide +kernel
theorem dX4_shorten_19 : decode cX4_shorten 19 = .ok (.aload_n 0, 1) := by decide +kernel
theorem dX4_shorten_20 : decode cX4_shorten 20 = .ok (.getfield 9, 3) := by decide +kernel
theorem dX4_shorten_23 : decode cX4_shorten 23 = .ok (.iload_n 3, 1) := by decide +kernel
theorem dX4_shorten_24 : decode cX4_shorten 24 = .ok (.iaload, 1) := by decide +kernel
theorem dX4_shorten_25 : decode cX4_shorten 25 = .ok (.isub, 1) := by decide +kernel
theorem dX4_shorten_26 : decode cX4_shorten 26 = .ok (.imul, 1) := by decide +kernel
theorem dX4_shorten_27 : decode cX4_shorten 27 = .ok (.iadd, 1) := by decide +kernel
theorem dX4_shorten_28 : decode cX4_shorten 28 = .ok (.istore 4, 2) := by decide +kernel
theorem dX4_shorten_30 : decode cX4_shorten 30 = .ok (.aload_n 1, 1) := by decide +kernel
theorem dX4_shorten_31 : decode cX4_shorten 31 = .ok (.iload_n 2, 1) := by decide +kernel
theorem dX4_shorten_32 : decode cX4_shorten 32 = .ok (.iaload, 1) := by decide +kernel
theorem dX4_shorten_33 : decode cX4_shorten 33 = .ok (.bipush (-9), 2) := by decide +kernel
theorem dX4_shorten_35 : decode cX4_shorten 35 = .ok (.if_icmp .eq 13, 3) := by decide +kernel
theorem dX4_shorten_38 : decode cX4_shorten 38 = .ok (.aload_n 1, 1) := by decide +kernel
theorem dX4_shorten_39 : decode cX4_shorten 39 = .ok (.iload_n 2, 1) := by decide +kernel
theorem dX4_shorten_40 : decode cX4_shorten 40 = .ok (.iaload, 1) := by decide +kernel
theorem dX4_shorten_41 : decode cX4_shorten 41 = .ok (.iload 4, 2) := by decide +kernel
theorem dX4_shorten_43 : decode cX4_shorten 43 = .ok (.if_icmp .gt 5, 3) := by decide +kernel
theorem dX4_shorten_46 : decode cX4_shorten 46 = .ok (.iconst 0, 1) := by decide +kernel
theorem dX4_shorten_47 : decode cX4_shorten 47 = .ok (.ireturn, 1) := by decide +kernel
theorem dX4_shorten_48 : decode cX4_shorten 48 = .ok (.aload_n 1, 1) := by decide +kernel
theorem dX4_shorten_49 : decode cX4_shorten 49 = .ok (.iload_n 2, 1) := by decide +kernel
theorem dX4_shorten_50 : decode cX4_shorten 50 = .ok (.iload 4, 2) := by decide +kernel
theorem dX4_shorten_52 : decode cX4_shorten 52 = .ok (.iastore, 1) := by decide +kernel
theorem dX4_shorten_53 : decode cX4_shorten 53 = .ok (.iconst 1, 1) := by decide +kernel
theorem dX4_shorten_54 : decode cX4_shorten 54 = .ok (.ireturn, 1) := by decide +kernel
theorem dX5_init_0 : decode cX5_init 0 = .ok (.aload_n 0, 1) := by decide +kernel
theorem dX5_init_1 : decode cX5_init 1 = .ok (.invokespecial 3, 3) := by decide +kernel
theorem dX5_init_4 : decode cX5_init 4 = .ok (.aload_n 0, 1) := by decide +kernel
theorem dX5_init_5 : decode cX5_init 5 = .ok (.bipush 6, 2) := by decide +kernel
theorem dX5_init_7 : decode cX5_init 7 = .ok (.bipush 48, 2) := by decide +kernel
theorem dX5_init_9 : decode cX5_init 9 = .ok (.multianewarray 9 2, 4) := by decide +kernel
theorem dX5_init_13 : decode cX5_init 13 = .ok (.putfield 11, 3) := by decide +kernel
theorem dX5_init_16 : decode cX5_init 16 = .ok (.aload_n 0, 1) := by decide +kernel
theorem dX5_init_17 : decode cX5_init 17 = .ok (.aload_n 1, 1) := by decide +kernel
theorem dX5_init_18 : decode cX5_init 18 = .ok (.putfield 16, 3) := by decide +kernel
theorem dX5_init_21 : decode cX5_init 21 = .ok (.aload_n 0, 1) := by decide +kernel
theorem dX5_init_22 : decode cX5_init 22 = .ok (.aload_n 2, 1) := by decide +kernel
theorem dX5_init_23 : decode cX5_init 23 = .ok (.putfield 20, 3) := by decide +kernel
theorem dX5_init_26 : decode cX5_init 26 = .ok (.return_, 1) := by decide +kernel
set_option maxRecDepth 20000 in
theorem ggX5_measure_X4_measureTo : GoodIn wsX5_measure wsX4_measureTo := goodIn_r _ [8, 9, 10, 11, 12, 7, 13, 14, 15, 16, 17, 18, 28, 29, 30, 31, 32] (by decide +kernel) (by decide +kernel)
set_option maxRecDepth 20000 in
theorem gX5_measure_X4_measureTo : GoodIn wsX5_measure (wsV RX5 34 RX4 yX4_measureTo wsX4_measureTo) := goodIn_app (goodIn_of _ (by decide +kernel)) ggX5_measure_X4_measureTo
theorem dX5_measure_0 : decode cX5_measure 0 = .ok (.iconst 0, 1) := by decide +kernel
theorem dX5_measure_1 : decode cX5_measure 1 = .ok (.istore_n 1, 1) := by decide +kernel
theorem dX5_measure_2 : decode cX5_measure 2 = .ok (.iload_n 1, 1) := by decide +kernel
theorem dX5_measure_3 : decode cX5_measure 3 = .ok (.aload_n 0, 1) := by decide +kernel
theorem dX5_measure_4 : decode cX5_measure 4 = .ok (.getfield 20, 3) := by decide +kernel
theorem dX5_measure_7 : decode cX5_measure 7 = .ok (.getfield 24, 3) := by decide +kernel
theorem dX5_measure_10 : decode cX5_measure 10 = .ok (.if_icmp .ge 31, 3) := by decide +kernel
theorem dX5_measure_13 : decode cX5_measure 13 = .ok (.aload_n 0, 1) := by decide +kernel
theorem dX5_measure_14 : decode cX5_measure 14 = .ok (.getfield 16, 3) := by decide +kernel
theorem dX5_measure_17 : decode cX5_measure 17 = .ok (.aload_n 0, 1) := by decide +kernel
theorem dX5_measure_18 : decode cX5_measure 18 = .ok (.getfield 20, 3) := by decide +kernel
theorem dX5_measure_21 : decode cX5_measure 21 = .ok (.getfield 30, 3) := by decide +kernel
theorem dX5_measure_24 : decode cX5_measure 24 = .ok (.iload_n 1, 1) := by decide +kernel
theorem dX5_measure_25 : decode cX5_measure 25 = .ok (.iaload, 1) := by decide +kernel
theorem dX5_measure_26 : decode cX5_measure 26 = .ok (.aload_n 0, 1) := by decide +kernel
theorem dX5_measure_27 : decode cX5_measure 27 = .ok (.getfield 11, 3) := by decide +kernel
theorem dX5_measure_30 : decode cX5_measure 30 = .ok (.iload_n 1, 1) := by decide +kernel
theorem dX5_measure_31 : decode cX5_measure 31 = .ok (.aaload, 1) := by decide +kernel
theorem dX5_measure_32 : decode cX5_measure 32 = .ok (.invokevirtual 34, 3) := by decide +kernel
theorem dX5_measure_35 : decode cX5_measure 35 = .ok (.iinc 1 1, 3) := by decide +kernel
theorem dX5_measure_38 : decode cX5_measure 38 = .ok (.goto (-36), 3) := by decide +kernel
theorem dX5_measure_41 : decode cX5_measure 41 = .ok (.return_, 1) := by decide +kernel
theorem dX5_earliestBegin_0 : decode cX5_earliestBegin 0 = .ok (.aload_n 0, 1) := by decide +kernel
theorem dX5_earliestBegin_1 : decode cX5_earliestBegin 1 = .ok (.getfield 20, 3) := by decide +kernel
theorem dX5_earliestBegin_4 : decode cX5_earliestBegin 4 = .ok (.getfield 40, 3) := by decide +kernel
theorem dX5_earliestBegin_7 : decode cX5_earliestBegin 7 = .ok (.iconst 0, 1) := by decide +kernel
theorem dX5_earliestBegin_8 : decode cX5_earliestBegin 8 = .ok (.iaload, 1) := by decide +kernel
theorem dX5_earliestBegin_9 : decode cX5_earliestBegin 9 = .ok (.aload_n 0, 1) := by decide +kernel
theorem dX5_earliestBegin_10 : decode cX5_earliestBegin 10 = .ok (.getfield 11, 3) := by decide +kernel
theorem dX5_earliestBegin_13 : decode cX5_earliestBegin 13 = .ok (.iconst 0, 1) := by decide +kernel
theorem dX5_earliestBegin_14 : decode cX5_earliestBegin 14 = .ok (.aaload, 1) := by decide +kernel
