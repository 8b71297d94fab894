theorem dX12_like_18 : decode cX12_like 18 = .ok (.iconst 0, 1) := by decide +kernel
theorem dX12_like_19 : decode cX12_like 19 = .ok (.aload_n 0, 1) := by decide +kernel
theorem dX12_like_20 : decode cX12_like 20 = .ok (.getfield 141, 3) := by decide +kernel
theorem dX12_like_23 : decode cX12_like 23 = .ok (.aload_n 0, 1) := by decide +kernel
theorem dX12_like_24 : decode cX12_like 24 = .ok (.getfield 38, 3) := by decide +kernel
theorem dX12_like_27 : decode cX12_like 27 = .ok (.iload_n 1, 1) := by decide +kernel
theorem dX12_like_28 : decode cX12_like 28 = .ok (.iaload, 1) := by decide +kernel
theorem dX12_like_29 : decode cX12_like 29 = .ok (.isub, 1) := by decide +kernel
theorem dX12_like_30 : decode cX12_like 30 = .ok (.invokestatic 86, 3) := by decide +kernel
theorem dX12_like_33 : decode cX12_like 33 = .ok (.ifCond .eq 12, 3) := by decide +kernel
theorem dX12_like_36 : decode cX12_like 36 = .ok (.aload_n 0, 1) := by decide +kernel
theorem dX12_like_37 : decode cX12_like 37 = .ok (.iload_n 1, 1) := by decide +kernel
theorem dX12_like_38 : decode cX12_like 38 = .ok (.iload_n 2, 1) := by decide +kernel
theorem dX12_like_39 : decode cX12_like 39 = .ok (.invokevirtual 147, 3) := by decide +kernel
theorem dX12_like_42 : decode cX12_like 42 = .ok (.goto 4, 3) := by decide +kernel
theorem dX12_like_45 : decode cX12_like 45 = .ok (.iconst (-1), 1) := by decide +kernel
theorem dX12_like_46 : decode cX12_like 46 = .ok (.ireturn, 1) := by decide +kernel
set_option maxRecDepth 20000 in
theorem ggX12_laidOf_X12_likeOf : GoodIn wsX12_laidOf wsX12_likeOf := goodIn_r _ [7, 1, 8, 9, 10, 11, 12, 13, 14, 15, 16, 17, 18, 19, 20, 21, 22, 23, 24, 25, 26, 27, 28, 29, 30, 31, 32, 33, 34, 35, 36, 37, 38] (by decide +kernel) (by decide +kernel)
set_option maxRecDepth 20000 in
theorem gX12_laidOf_X12_likeOf : GoodIn wsX12_laidOf (wsV RX12 147 RX12 yX12_likeOf wsX12_likeOf) := goodIn_app (goodIn_of _ (by decide +kernel)) ggX12_laidOf_X12_likeOf
theorem dX12_laidOf_0 : decode cX12_laidOf 0 = .ok (.bipush (-9), 2) := by decide +kernel
theorem dX12_laidOf_2 : decode cX12_laidOf 2 = .ok (.istore_n 2, 1) := by decide +kernel
theorem dX12_laidOf_3 : decode cX12_laidOf 3 = .ok (.iconst (-1), 1) := by decide +kernel
theorem dX12_laidOf_4 : decode cX12_laidOf 4 = .ok (.istore_n 3, 1) := by decide +kernel
theorem dX12_laidOf_5 : decode cX12_laidOf 5 = .ok (.iconst 0, 1) := by decide +kernel
theorem dX12_laidOf_6 : decode cX12_laidOf 6 = .ok (.istore 4, 2) := by decide +kernel
theorem dX12_laidOf_8 : decode cX12_laidOf 8 = .ok (.iload 4, 2) := by decide +kernel
theorem dX12_laidOf_10 : decode cX12_laidOf 10 = .ok (.aload_n 0, 1) := by decide +kernel
theorem dX12_laidOf_11 : decode cX12_laidOf 11 = .ok (.getfield 38, 3) := by decide +kernel
theorem dX12_laidOf_14 : decode cX12_laidOf 14 = .ok (.iload_n 1, 1) := by decide +kernel
theorem dX12_laidOf_15 : decode cX12_laidOf 15 = .ok (.iaload, 1) := by decide +kernel
theorem dX12_laidOf_16 : decode cX12_laidOf 16 = .ok (.iadd, 1) := by decide +kernel
theorem dX12_laidOf_17 : decode cX12_laidOf 17 = .ok (.aload_n 0, 1) := by decide +kernel
theorem dX12_laidOf_18 : decode cX12_laidOf 18 = .ok (.getfield 141, 3) := by decide +kernel
theorem dX12_laidOf_21 : decode cX12_laidOf 21 = .ok (.if_icmp .gt 54, 3) := by decide +kernel
theorem dX12_laidOf_24 : decode cX12_laidOf 24 = .ok (.aload_n 0, 1) := by decide +kernel
theorem dX12_laidOf_25 : decode cX12_laidOf 25 = .ok (.getfield 38, 3) := by decide +kernel
theorem dX12_laidOf_28 : decode cX12_laidOf 28 = .ok (.iload_n 1, 1) := by decide +kernel
theorem dX12_laidOf_29 : decode cX12_laidOf 29 = .ok (.iaload, 1) := by decide +kernel
theorem dX12_laidOf_30 : decode cX12_laidOf 30 = .ok (.iconst 1, 1) := by decide +kernel
theorem dX12_laidOf_31 : decode cX12_laidOf 31 = .ok (.if_icmp .le 44, 3) := by decide +kernel
theorem dX12_laidOf_34 : decode cX12_laidOf 34 = .ok (.aload_n 0, 1) := by decide +kernel
theorem dX12_laidOf_35 : decode cX12_laidOf 35 = .ok (.iload_n 1, 1) := by decide +kernel
theorem dX12_laidOf_36 : decode cX12_laidOf 36 = .ok (.iload 4, 2) := by decide +kernel
theorem dX12_laidOf_38 : decode cX12_laidOf 38 = .ok (.invokevirtual 147, 3) := by decide +kernel
theorem dX12_laidOf_41 : decode cX12_laidOf 41 = .ok (.istore 5, 2) := by decide +kernel
theorem dX12_laidOf_43 : decode cX12_laidOf 43 = .ok (.iload 5, 2) := by decide +kernel
theorem dX12_laidOf_45 : decode cX12_laidOf 45 = .ok (.iload_n 3, 1) := by decide +kernel
theorem dX12_laidOf_46 : decode cX12_laidOf 46 = .ok (.if_icmp .le 8, 3) := by decide +kernel
theorem dX12_laidOf_49 : decode cX12_laidOf 49 = .ok (.iload 4, 2) := by decide +kernel
theorem dX12_laidOf_51 : decode cX12_laidOf 51 = .ok (.goto 4, 3) := by decide +kernel
theorem dX12_laidOf_54 : decode cX12_laidOf 54 = .ok (.iload_n 2, 1) := by decide +kernel
theorem dX12_laidOf_55 : decode cX12_laidOf 55 = .ok (.istore_n 2, 1) := by decide +kernel
theorem dX12_laidOf_56 : decode cX12_laidOf 56 = .ok (.iload 5, 2) := by decide +kernel
theorem dX12_laidOf_58 : decode cX12_laidOf 58 = .ok (.iload_n 3, 1) := by decide +kernel
theorem dX12_laidOf_59 : decode cX12_laidOf 59 = .ok (.if_icmp .le 8, 3) := by decide +kernel
theorem dX12_laidOf_62 : decode cX12_laidOf 62 = .ok (.iload 5, 2) := by decide +kernel
theorem dX12_laidOf_64 : decode cX12_laidOf 64 = .ok (.goto 4, 3) := by decide +kernel
theorem dX12_laidOf_67 : decode cX12_laidOf 67 = .ok (.iload_n 3, 1) := by decide +kernel
theorem dX12_laidOf_68 : decode cX12_laidOf 68 = .ok (.istore_n 3, 1) := by decide +kernel
theorem dX12_laidOf_69 : decode cX12_laidOf 69 = .ok (.iinc 4 1, 3) := by decide +kernel
theorem dX12_laidOf_72 : decode cX12_laidOf 72 = .ok (.goto (-64), 3) := by decide +kernel
theorem dX12_laidOf_75 : decode cX12_laidOf 75 = .ok (.iload_n 2, 1) := by decide +kernel
theorem dX12_laidOf_76 : decode cX12_laidOf 76 = .ok (.ireturn, 1) := by decide +kernel
set_option maxRecDepth 20000 in
theorem ggX12_died_X12_isWood : GoodIn wsX12_died wsX12_isWood := goodIn_r _ [7, 8, 9, 6, 10] (by decide +kernel) (by decide +kernel)
set_option maxRecDepth 20000 in
theorem gX12_died_X12_isWood : GoodIn wsX12_died (va_wsS RX12 144 yX12_isWood wsX12_isWood) := goodIn_app (goodIn_of _ (by decide +kernel)) ggX12_died_X12_isWood
set_option maxRecDepth 20000 in
theorem ggX12_died_X12_in : GoodIn wsX12_died wsX12_in := goodIn_r _ [10] (by decide +kernel) (by decide +kernel)
set_option maxRecDepth 20000 in
theorem gX12_died_X12_in : GoodIn wsX12_died (va_wsS RX12 86 yX12_in wsX12_in) := goodIn_app (goodIn_of _ (by decide +kernel)) ggX12_died_X12_in
set_option maxRecDepth 20000 in
theorem ggX12_died_X12_laidOf : GoodIn wsX12_died wsX12_laidOf := goodIn_r _ [14, 2, 15, 16, 17, 18, 6, 19, 20, 21, 22, 23, 24, 25, 26, 27, 28, 29, 30, 31, 32, 33, 34, 35, 36, 37, 38, 39, 40, 41, 42, 43, 44, 45, 46, 47, 48, 49, 50] (by decide +kernel) (by decide +kernel)
set_option maxRecDepth 20000 in
theorem gX12_died_X12_laidOf : GoodIn wsX12_died (wsV RX12 150 RX12 yX12_laidOf wsX12_laidOf) := goodIn_app (goodIn_of _ (by decide +kernel)) ggX12_died_X12_laidOf
theorem dX12_died_0 : decode cX12_died 0 = .ok (.iload_n 1, 1) := by decide +kernel
theorem dX12_died_1 : decode cX12_died 1 = .ok (.invokestatic 144, 3) := by decide +kernel
theorem dX12_died_4 : decode cX12_died 4 = .ok (.ifCond .eq 12, 3) := by decide +kernel
theorem dX12_died_7 : decode cX12_died 7 = .ok (.iload_n 2, 1) := by decide +kernel
theorem dX12_died_8 : decode cX12_died 8 = .ok (.iconst 0, 1) := by decide +kernel
theorem dX12_died_9 : decode cX12_died 9 = .ok (.iconst 2, 1) := by decide +kernel
theorem dX12_died_10 : decode cX12_died 10 = .ok (.invokestatic 86, 3) := by decide +kernel
theorem dX12_died_13 : decode cX12_died 13 = .ok (.ifCond .ne 5, 3) := by decide +kernel
theorem dX12_died_16 : decode cX12_died 16 = .ok (.iconst (-1), 1) := by decide +kernel
theorem dX12_died_17 : decode cX12_died 17 = .ok (.ireturn, 1) := by decide +kernel
theorem dX12_died_18 : decode cX12_died 18 = .ok (.aload_n 0, 1) := by decide +kernel
theorem dX12_died_19 : decode cX12_died 19 = .ok (.iload_n 1, 1) := by decide +kernel
theorem dX12_died_20 : decode cX12_died 20 = .ok (.invokevirtual 150, 3) := by decide +kernel
theorem dX12_died_23 : decode cX12_died 23 = .ok (.istore_n 3, 1) := by decide +kernel
theorem dX12_died_24 : decode cX12_died 24 = .ok (.iload_n 3, 1) := by decide +kernel
theorem dX12_died_25 : decode cX12_died 25 = .ok (.bipush (-9), 2) := by decide +kernel
theorem dX12_died_27 : decode cX12_died 27 = .ok (.if_icmp .eq 7, 3) := by decide +kernel
theorem dX12_died_30 : decode cX12_died 30 = .ok (.iload_n 2, 1) := by decide +kernel
theorem dX12_died_31 : decode cX12_died 31 = .ok (.ifCond .ne 7, 3) := by decide +kernel
theorem dX12_died_34 : decode cX12_died 34 = .ok (.iload_n 3, 1) := by decide +kernel
theorem dX12_died_35 : decode cX12_died 35 = .ok (.goto 32, 3) := by decide +kernel
theorem dX12_died_38 : decode cX12_died 38 = .ok (.iload_n 2, 1) := by decide +kernel
theorem dX12_died_39 : decode cX12_died 39 = .ok (.iconst 1, 1) := by decide +kernel
theorem dX12_died_40 : decode cX12_died 40 = .ok (.if_icmp .ne 21, 3) := by decide +kernel
theorem dX12_died_43 : decode cX12_died 43 = .ok (.aload_n 0, 1) := by decide +kernel
theorem dX12_died_44 : decode cX12_died 44 = .ok (.getfield 82, 3) := by decide +kernel
theorem dX12_died_47 : decode cX12_died 47 = .ok (.iload_n 3, 1) := by decide +kernel
theorem dX12_died_48 : decode cX12_died 48 = .ok (.iadd, 1) := by decide +kernel
theorem dX12_died_49 : decode cX12_died 49 = .ok (.aload_n 0, 1) := by decide +kernel
theorem dX12_died_50 : decode cX12_died 50 = .ok (.getfield 38, 3) := by decide +kernel
theorem dX12_died_53 : decode cX12_died 53 = .ok (.iload_n 1, 1) := by decide +kernel
theorem dX12_died_54 : decode cX12_died 54 = .ok (.iaload, 1) := by decide +kernel
theorem dX12_died_55 : decode cX12_died 55 = .ok (.iadd, 1) := by decide +kernel
theorem dX12_died_56 : decode cX12_died 56 = .ok (.iconst 1, 1) := by decide +kernel
theorem dX12_died_57 : decode cX12_died 57 = .ok (.isub, 1) := by decide +kernel
theorem dX12_died_58 : decode cX12_died 58 = .ok (.goto 9, 3) := by decide +kernel
theorem dX12_died_61 : decode cX12_died 61 = .ok (.aload_n 0, 1) := by decide +kernel
theorem dX12_died_62 : decode cX12_died 62 = .ok (.getfield 41, 3) := by decide +kernel
theorem dX12_died_65 : decode cX12_died 65 = .ok (.iload_n 1, 1) := by decide +kernel
theorem dX12_died_66 : decode cX12_died 66 = .ok (.iaload, 1) := by decide +kernel
theorem dX12_died_67 : decode cX12_died 67 = .ok (.ireturn, 1) := by decide +kernel
set_option maxRecDepth 20000 in
theorem ggX12_alike_X12_laidOf : GoodIn wsX12_alike wsX12_laidOf := goodIn_r _ [8, 2, 9, 10, 11, 12, 7, 13, 14, 15, 16, 17, 18, 19, 20, 21, 22, 23, 24, 25, 26, 27, 28, 29, 30, 31, 32, 33, 34, 35, 36, 37, 38, 39, 40, 41, 42, 43, 44] (by decide +kernel) (by decide +kernel)
set_option maxRecDepth 20000 in
theorem gX12_alike_X12_laidOf : GoodIn wsX12_alike (wsV RX12 150 RX12 yX12_laidOf wsX12_laidOf) := goodIn_app (goodIn_of _ (by decide +kernel)) ggX12_alike_X12_laidOf
theorem dX12_alike_0 : decode cX12_alike 0 = .ok (.bipush (-9), 2) := by decide +kernel
theorem dX12_alike_2 : decode cX12_alike 2 = .ok (.istore_n 1, 1) := by decide +kernel
theorem dX12_alike_3 : decode cX12_alike 3 = .ok (.bipush (-9), 2) := by decide +kernel
theorem dX12_alike_5 : decode cX12_alike 5 = .ok (.istore_n 2, 1) := by decide +kernel
theorem dX12_alike_6 : decode cX12_alike 6 = .ok (.iconst 1, 1) := by decide +kernel
theorem dX12_alike_7 : decode cX12_alike 7 = .ok (.istore_n 3, 1) := by decide +kernel
theorem dX12_alike_8 : decode cX12_alike 8 = .ok (.iconst 0, 1) := by decide +kernel
theorem dX12_alike_9 : decode cX12_alike 9 = .ok (.istore 4, 2) := by decide +kernel
theorem dX12_alike_11 : decode cX12_alike 11 = .ok (.iload 4, 2) := by decide +kernel
theorem dX12_alike_13 : decode cX12_alike 13 = .ok (.iconst 4, 1) := by decide +kernel
theorem dX12_alike_14 : decode cX12_alike 14 = .ok (.if_icmp .ge 87, 3) := by decide +kernel
theorem dX12_alike_17 : decode cX12_alike 17 = .ok (.aload_n 0, 1) := by decide +kernel
theorem dX12_alike_18 : decode cX12_alike 18 = .ok (.iload 4, 2) := by decide +kernel
theorem dX12_alike_20 : decode cX12_alike 20 = .ok (.invokevirtual 150, 3) := by decide +kernel
theorem dX12_alike_23 : decode cX12_alike 23 = .ok (.istore 5, 2) := by decide +kernel
theorem dX12_alike_25 : decode cX12_alike 25 = .ok (.iload 5, 2) := by decide +kernel
theorem dX12_alike_27 : decode cX12_alike 27 = .ok (.bipush (-9), 2) := by decide +kernel
theorem dX12_alike_29 : decode cX12_alike 29 = .ok (.if_icmp .eq 66, 3) := by decide +kernel
theorem dX12_alike_32 : decode cX12_alike 32 = .ok (.aload_n 0, 1) := by decide +kernel
theorem dX12_alike_33 : decode cX12_alike 33 = .ok (.getfield 82, 3) := by decide +kernel
theorem dX12_alike_36 : decode cX12_alike 36 = .ok (.iload 5, 2) := by decide +kernel
theorem dX12_alike_38 : decode cX12_alike 38 = .ok (.iadd, 1) := by decide +kernel
theorem dX12_alike_39 : decode cX12_alike 39 = .ok (.aload_n 0, 1) := by decide +kernel
theorem dX12_alike_40 : decode cX12_alike 40 = .ok (.getfield 38, 3) := by decide +kernel
theorem dX12_alike_43 : decode cX12_alike 43 = .ok (.iload 4, 2) := by decide +kernel
theorem dX12_alike_45 : decode cX12_alike 45 = .ok (.iaload, 1) := by decide +kernel
theorem dX12_alike_46 : decode cX12_alike 46 = .ok (.iadd, 1) := by decide +kernel
theorem dX12_alike_47 : decode cX12_alike 47 = .ok (.iconst 1, 1) := by decide +kernel
theorem dX12_alike_48 : decode cX12_alike 48 = .ok (.isub, 1) := by decide +kernel
theorem dX12_alike_49 : decode cX12_alike 49 = .ok (.istore 6, 2) := by decide +kernel
theorem dX12_alike_51 : decode cX12_alike 51 = .ok (.iload_n 3, 1) := by decide +kernel
theorem dX12_alike_52 : decode cX12_alike 52 = .ok (.ifCond .eq 30, 3) := by decide +kernel
theorem dX12_alike_55 : decode cX12_alike 55 = .ok (.iload_n 1, 1) := by decide +kernel
theorem dX12_alike_56 : decode cX12_alike 56 = .ok (.bipush (-9), 2) := by decide +kernel
theorem dX12_alike_58 : decode cX12_alike 58 = .ok (.if_icmp .eq 20, 3) := by decide +kernel
theorem dX12_alike_61 : decode cX12_alike 61 = .ok (.iload_n 1, 1) := by decide +kernel
theorem dX12_alike_62 : decode cX12_alike 62 = .ok (.iload 6, 2) := by decide +kernel
theorem dX12_alike_64 : decode cX12_alike 64 = .ok (.if_icmp .ne 18, 3) := by decide +kernel
theorem dX12_alike_67 : decode cX12_alike 67 = .ok (.iload_n 2, 1) := by decide +kernel
theorem dX12_alike_68 : decode cX12_alike 68 = .ok (.aload_n 0, 1) := by decide +kernel
theorem dX12_alike_69 : decode cX12_alike 69 = .ok (.getfield 41, 3) := by decide +kernel
theorem dX12_alike_72 : decode cX12_alike 72 = .ok (.iload 4, 2) := by decide +kernel
theorem dX12_alike_74 : decode cX12_alike 74 = .ok (.iaload, 1) := by decide +kernel
theorem dX12_alike_75 : decode cX12_alike 75 = .ok (.if_icmp .ne 7, 3) := by decide +kernel
theorem dX12_alike_78 : decode cX12_alike 78 = .ok (.iconst 1, 1) := by decide +kernel
theorem dX12_alike_79 : decode cX12_alike 79 = .ok (.goto 4, 3) := by decide +kernel
theorem dX12_alike_82 : decode cX12_alike 82 = .ok (.iconst 0, 1) := by decide +kernel
theorem dX12_alike_83 : decode cX12_alike 83 = .ok (.istore_n 3, 1) := by decide +kernel
theorem dX12_alike_84 : decode cX12_alike 84 = .ok (.iload 6, 2) := by decide +kernel
theorem dX12_alike_86 : decode cX12_alike 86 = .ok (.istore_n 1, 1) := by decide +kernel
theorem dX12_alike_87 : decode cX12_alike 87 = .ok (.aload_n 0, 1) := by decide +kernel
theorem dX12_alike_88 : decode cX12_alike 88 = .ok (.getfield 41, 3) := by decide +kernel
theorem dX12_alike_91 : decode cX12_alike 91 = .ok (.iload 4, 2) := by decide +kernel
theorem dX12_alike_93 : decode cX12_alike 93 = .ok (.iaload, 1) := by decide +kernel
theorem dX12_alike_94 : decode cX12_alike 94 = .ok (.istore_n 2, 1) := by decide +kernel
theorem dX12_alike_95 : decode cX12_alike 95 = .ok (.iinc 4 1, 3) := by decide +kernel
theorem dX12_alike_98 : decode cX12_alike 98 = .ok (.goto (-87), 3) := by decide +kernel
theorem dX12_alike_101 : decode cX12_alike 101 = .ok (.iload_n 3, 1) := by decide +kernel
theorem dX12_alike_102 : decode cX12_alike 102 = .ok (.ifCond .eq 7, 3) := by decide +kernel
theorem dX12_alike_105 : decode cX12_alike 105 = .ok (.iload_n 1, 1) := by decide +kernel
theorem dX12_alike_106 : decode cX12_alike 106 = .ok (.goto 5, 3) := by decide +kernel
theorem dX12_alike_109 : decode cX12_alike 109 = .ok (.bipush (-9), 2) := by decide +kernel
theorem dX12_alike_111 : decode cX12_alike 111 = .ok (.ireturn, 1) := by decide +kernel
set_option maxRecDepth 20000 in
theorem ggX12_sheet_X12_in : GoodIn wsX12_sheet wsX12_in := goodIn_r _ [8] (by decide +kernel) (by decide +kernel)
set_option maxRecDepth 20000 in
theorem gX12_sheet_X12_in : GoodIn wsX12_sheet (va_wsS RX12 86 yX12_in wsX12_in) := goodIn_app (goodIn_of _ (by decide +kernel)) ggX12_sheet_X12_in
theorem dX12_sheet_0 : decode cX12_sheet 0 = .ok (.iload_n 1, 1) := by decide +kernel
theorem dX12_sheet_1 : decode cX12_sheet 1 = .ok (.iconst 0, 1) := by decide +kernel
theorem dX12_sheet_2 : decode cX12_sheet 2 = .ok (.iconst 5, 1) := by decide +kernel
theorem dX12_sheet_3 : decode cX12_sheet 3 = .ok (.invokestatic 86, 3) := by decide +kernel
theorem dX12_sheet_6 : decode cX12_sheet 6 = .ok (.ifCond .eq 25, 3) := by decide +kernel
theorem dX12_sheet_9 : decode cX12_sheet 9 = .ok (.iload_n 2, 1) := by decide +kernel
theorem dX12_sheet_10 : decode cX12_sheet 10 = .ok (.iconst 0, 1) := by decide +kernel
theorem dX12_sheet_11 : decode cX12_sheet 11 = .ok (.sipush 9999, 3) := by decide +kernel
theorem dX12_sheet_14 : decode cX12_sheet 14 = .ok (.invokestatic 86, 3) := by decide +kernel
theorem dX12_sheet_17 : decode cX12_sheet 17 = .ok (.ifCond .eq 14, 3) := by decide +kernel
theorem dX12_sheet_20 : decode cX12_sheet 20 = .ok (.iload_n 3, 1) := by decide +kernel
theorem dX12_sheet_21 : decode cX12_sheet 21 = .ok (.iload_n 2, 1) := by decide +kernel
theorem dX12_sheet_22 : decode cX12_sheet 22 = .ok (.sipush 9999, 3) := by decide +kernel
theorem dX12_sheet_25 : decode cX12_sheet 25 = .ok (.invokestatic 86, 3) := by decide +kernel
theorem dX12_sheet_28 : decode cX12_sheet 28 = .ok (.ifCond .ne 5, 3) := by decide +kernel
theorem dX12_sheet_31 : decode cX12_sheet 31 = .ok (.iconst (-1), 1) := by decide +kernel
theorem dX12_sheet_32 : decode cX12_sheet 32 = .ok (.ireturn, 1) := by decide +kernel
theorem dX12_sheet_33 : decode cX12_sheet 33 = .ok (.aload_n 0, 1) := by decide +kernel
theorem dX12_sheet_34 : decode cX12_sheet 34 = .ok (.getfield 47, 3) := by decide +kernel
theorem dX12_sheet_37 : decode cX12_sheet 37 = .ok (.iconst 0, 1) := by decide +kernel
theorem dX12_sheet_38 : decode cX12_sheet 38 = .ok (.iaload, 1) := by decide +kernel
theorem dX12_sheet_39 : decode cX12_sheet 39 = .ok (.bipush 12, 2) := by decide +kernel
theorem dX12_sheet_41 : decode cX12_sheet 41 = .ok (.if_icmp .ne 6, 3) := by decide +kernel
theorem dX12_sheet_44 : decode cX12_sheet 44 = .ok (.bipush (-3), 2) := by decide +kernel
theorem dX12_sheet_46 : decode cX12_sheet 46 = .ok (.ireturn, 1) := by decide +kernel
theorem dX12_sheet_47 : decode cX12_sheet 47 = .ok (.aload_n 0, 1) := by decide +kernel
theorem dX12_sheet_48 : decode cX12_sheet 48 = .ok (.getfield 47, 3) := by decide +kernel
theorem dX12_sheet_51 : decode cX12_sheet 51 = .ok (.iconst 0, 1) := by decide +kernel
theorem dX12_sheet_52 : decode cX12_sheet 52 = .ok (.iaload, 1) := by decide +kernel
theorem dX12_sheet_53 : decode cX12_sheet 53 = .ok (.istore 4, 2) := by decide +kernel
theorem dX12_sheet_55 : decode cX12_sheet 55 = .ok (.aload_n 0, 1) := by decide +kernel
theorem dX12_sheet_56 : decode cX12_sheet 56 = .ok (.getfield 50, 3) := by decide +kernel
theorem dX12_sheet_59 : decode cX12_sheet 59 = .ok (.iload 4, 2) := by decide +kernel
theorem dX12_sheet_61 : decode cX12_sheet 61 = .ok (.iload_n 1, 1) := by decide +kernel
theorem dX12_sheet_62 : decode cX12_sheet 62 = .ok (.iastore, 1) := by decide +kernel
theorem dX12_sheet_63 : decode cX12_sheet 63 = .ok (.aload_n 0, 1) := by decide +kernel
theorem dX12_sheet_64 : decode cX12_sheet 64 = .ok (.getfield 53, 3) := by decide +kernel
theorem dX12_sheet_67 : decode cX12_sheet 67 = .ok (.iload 4, 2) := by decide +kernel
theorem dX12_sheet_69 : decode cX12_sheet 69 = .ok (.iload_n 2, 1) := by decide +kernel
theorem dX12_sheet_70 : decode cX12_sheet 70 = .ok (.iastore, 1) := by decide +kernel
theorem dX12_sheet_71 : decode cX12_sheet 71 = .ok (.aload_n 0, 1) := by decide +kernel
theorem dX12_sheet_72 : decode cX12_sheet 72 = .ok (.getfield 56, 3) := by decide +kernel
theorem dX12_sheet_75 : decode cX12_sheet 75 = .ok (.iload 4, 2) := by decide +kernel
theorem dX12_sheet_77 : decode cX12_sheet 77 = .ok (.iload_n 3, 1) := by decide +kernel
theorem dX12_sheet_78 : decode cX12_sheet 78 = .ok (.iastore, 1) := by decide +kernel
theorem dX12_sheet_79 : decode cX12_sheet 79 = .ok (.aload_n 0, 1) := by decide +kernel
theorem dX12_sheet_80 : decode cX12_sheet 80 = .ok (.getfield 47, 3) := by decide +kernel
theorem dX12_sheet_83 : decode cX12_sheet 83 = .ok (.iconst 0, 1) := by decide +kernel
theorem dX12_sheet_84 : decode cX12_sheet 84 = .ok (.dup2, 1) := by decide +kernel
theorem dX12_sheet_85 : decode cX12_sheet 85 = .ok (.iaload, 1) := by decide +kernel
theorem dX12_sheet_86 : decode cX12_sheet 86 = .ok (.iconst 1, 1) := by decide +kernel
theorem dX12_sheet_87 : decode cX12_sheet 87 = .ok (.iadd, 1) := by decide +kernel
theorem dX12_sheet_88 : decode cX12_sheet 88 = .ok (.iastore, 1) := by decide +kernel
theorem dX12_sheet_89 : decode cX12_sheet 89 = .ok (.iload 4, 2) := by decide +kernel
theorem dX12_sheet_91 : decode cX12_sheet 91 = .ok (.ireturn, 1) := by decide +kernel
set_option maxRecDepth 20000 in
theorem ggX12_together_X12_in : GoodIn wsX12_together wsX12_in := goodIn_r _ [7] (by decide +kernel) (by decide +kernel)
set_option maxRecDepth 20000 in
theorem gX12_together_X12_in : GoodIn wsX12_together (va_wsS RX12 86 yX12_in wsX12_in) := goodIn_app (goodIn_of _ (by decide +kernel)) ggX12_together_X12_in
theorem dX12_together_0 : decode cX12_together 0 = .ok (.iconst 0, 1) := by decide +kernel
theorem dX12_together_1 : decode cX12_together 1 = .ok (.istore_n 3, 1) := by decide +kernel
theorem dX12_together_2 : decode cX12_together 2 = .ok (.sipush 9999, 3) := by decide +kernel
theorem dX12_together_5 : decode cX12_together 5 = .ok (.istore 4, 2) := by decide +kernel
theorem dX12_together_7 : decode cX12_together 7 = .ok (.iconst 0, 1) := by decide +kernel
theorem dX12_together_8 : decode cX12_together 8 = .ok (.istore 5, 2) := by decide +kernel
theorem dX12_together_10 : decode cX12_together 10 = .ok (.iconst 0, 1) := by decide +kernel
theorem dX12_together_11 : decode cX12_together 11 = .ok (.istore 6, 2) := by decide +kernel
theorem dX12_together_13 : decode cX12_together 13 = .ok (.iload 6, 2) := by decide +kernel
theorem dX12_together_15 : decode cX12_together 15 = .ok (.aload_n 0, 1) := by decide +kernel
theorem dX12_together_16 : decode cX12_together 16 = .ok (.getfield 47, 3) := by decide +kernel
theorem dX12_together_19 : decode cX12_together 19 = .ok (.iconst 0, 1) := by decide +kernel
theorem dX12_together_20 : decode cX12_together 20 = .ok (.iaload, 1) := by decide +kernel
theorem dX12_together_21 : decode cX12_together 21 = .ok (.if_icmp .ge 71, 3) := by decide +kernel
theorem dX12_together_24 : decode cX12_together 24 = .ok (.iload_n 1, 1) := by decide +kernel
theorem dX12_together_25 : decode cX12_together 25 = .ok (.iload 6, 2) := by decide +kernel
theorem dX12_together_27 : decode cX12_together 27 = .ok (.ishr, 1) := by decide +kernel
theorem dX12_together_28 : decode cX12_together 28 = .ok (.iconst 1, 1) := by decide +kernel
theorem dX12_together_29 : decode cX12_together 29 = .ok (.iand, 1) := by decide +kernel
theorem dX12_together_30 : decode cX12_together 30 = .ok (.iconst 1, 1) := by decide +kernel
theorem dX12_together_31 : decode cX12_together 31 = .ok (.if_icmp .ne 55, 3) := by decide +kernel
theorem dX12_together_34 : decode cX12_together 34 = .ok (.aload_n 0, 1) := by decide +kernel
theorem dX12_together_35 : decode cX12_together 35 = .ok (.getfield 53, 3) := by decide +kernel
theorem dX12_together_38 : decode cX12_together 38 = .ok (.iload 6, 2) := by decide +kernel
theorem dX12_together_40 : decode cX12_together 40 = .ok (.iaload, 1) := by decide +kernel
theorem dX12_together_41 : decode cX12_together 41 = .ok (.iload_n 3, 1) := by decide +kernel
theorem dX12_together_42 : decode cX12_together 42 = .ok (.if_icmp .le 13, 3) := by decide +kernel
theorem dX12_together_45 : decode cX12_together 45 = .ok (.aload_n 0, 1) := by decide +kernel
theorem dX12_together_46 : decode cX12_together 46 = .ok (.getfield 53, 3) := by decide +kernel
theorem dX12_together_49 : decode cX12_together 49 = .ok (.iload 6, 2) := by decide +kernel
theorem dX12_together_51 : decode cX12_together 51 = .ok (.iaload, 1) := by decide +kernel
theorem dX12_together_52 : decode cX12_together 52 = .ok (.goto 4, 3) := by decide +kernel
theorem dX12_together_55 : decode cX12_together 55 = .ok (.iload_n 3, 1) := by decide +kernel
theorem dX12_together_56 : decode cX12_together 56 = .ok (.istore_n 3, 1) := by decide +kernel
theorem dX12_together_57 : decode cX12_together 57 = .ok (.aload_n 0, 1) := by decide +kernel
theorem dX12_together_58 : decode cX12_together 58 = .ok (.getfield 56, 3) := by decide +kernel
theorem dX12_together_61 : decode cX12_together 61 = .ok (.iload 6, 2) := by decide +kernel
theorem dX12_together_63 : decode cX12_together 63 = .ok (.iaload, 1) := by decide +kernel
theorem dX12_together_64 : decode cX12_together 64 = .ok (.iload 4, 2) := by decide +kernel
theorem dX12_together_66 : decode cX12_together 66 = .ok (.if_icmp .ge 13, 3) := by decide +kernel
theorem dX12_together_69 : decode cX12_together 69 = .ok (.aload_n 0, 1) := by decide +kernel
theorem dX12_together_70 : decode cX12_together 70 = .ok (.getfield 56, 3) := by decide +kernel
theorem dX12_together_73 : decode cX12_together 73 = .ok (.iload 6, 2) := by decide +kernel
theorem dX12_together_75 : decode cX12_together 75 = .ok (.iaload, 1) := by decide +kernel
theorem dX12_together_76 : decode cX12_together 76 = .ok (.goto 5, 3) := by decide +kernel
theorem dX12_together_79 : decode cX12_together 79 = .ok (.iload 4, 2) := by decide +kernel
theorem dX12_together_81 : decode cX12_together 81 = .ok (.istore 4, 2) := by decide +kernel
theorem dX12_together_83 : decode cX12_together 83 = .ok (.iinc 5 1, 3) := by decide +kernel
theorem dX12_together_86 : decode cX12_together 86 = .ok (.iinc 6 1, 3) := by decide +kernel
theorem dX12_together_89 : decode cX12_together 89 = .ok (.goto (-76), 3) := by decide +kernel
theorem dX12_together_92 : decode cX12_together 92 = .ok (.iload 5, 2) := by decide +kernel
theorem dX12_together_94 : decode cX12_together 94 = .ok (.ifCond .eq 12, 3) := by decide +kernel
theorem dX12_together_97 : decode cX12_together 97 = .ok (.iload_n 2, 1) := by decide +kernel
theorem dX12_together_98 : decode cX12_together 98 = .ok (.iconst 0, 1) := by decide +kernel
theorem dX12_together_99 : decode cX12_together 99 = .ok (.iconst 1, 1) := by decide +kernel
theorem dX12_together_100 : decode cX12_together 100 = .ok (.invokestatic 86, 3) := by decide +kernel
theorem dX12_together_103 : decode cX12_together 103 = .ok (.ifCond .ne 5, 3) := by decide +kernel
theorem dX12_together_106 : decode cX12_together 106 = .ok (.iconst (-1), 1) := by decide +kernel
theorem dX12_together_107 : decode cX12_together 107 = .ok (.ireturn, 1) := by decide +kernel
theorem dX12_together_108 : decode cX12_together 108 = .ok (.iload 4, 2) := by decide +kernel
theorem dX12_together_110 : decode cX12_together 110 = .ok (.iload_n 3, 1) := by decide +kernel
theorem dX12_together_111 : decode cX12_together 111 = .ok (.if_icmp .ge 8, 3) := by decide +kernel
theorem dX12_together_114 : decode cX12_together 114 = .ok (.bipush (-9), 2) := by decide +kernel
theorem dX12_together_116 : decode cX12_together 116 = .ok (.goto 13, 3) := by decide +kernel
theorem dX12_together_119 : decode cX12_together 119 = .ok (.iload_n 2, 1) := by decide +kernel
theorem dX12_together_120 : decode cX12_together 120 = .ok (.ifCond .ne 7, 3) := by decide +kernel
theorem dX12_together_123 : decode cX12_together 123 = .ok (.iload_n 3, 1) := by decide +kernel
theorem dX12_together_124 : decode cX12_together 124 = .ok (.goto 5, 3) := by decide +kernel
theorem dX12_together_127 : decode cX12_together 127 = .ok (.iload 4, 2) := by decide +kernel
theorem dX12_together_129 : decode cX12_together 129 = .ok (.ireturn, 1) := by decide +kernel
theorem dX12_slips_0 : decode cX12_slips 0 = .ok (.iconst (-1), 1) := by decide +kernel
theorem dX12_slips_1 : decode cX12_slips 1 = .ok (.istore_n 1, 1) := by decide +kernel
theorem dX12_slips_2 : decode cX12_slips 2 = .ok (.iconst 0, 1) := by decide +kernel
theorem dX12_slips_3 : decode cX12_slips 3 = .ok (.istore_n 2, 1) := by decide +kernel
theorem dX12_slips_4 : decode cX12_slips 4 = .ok (.iconst 1, 1) := by decide +kernel
theorem dX12_slips_5 : decode cX12_slips 5 = .ok (.istore_n 3, 1) := by decide +kernel
theorem dX12_slips_6 : decode cX12_slips 6 = .ok (.iload_n 3, 1) := by decide +kernel
theorem dX12_slips_7 : decode cX12_slips 7 = .ok (.ifCond .eq 95, 3) := by decide +kernel
theorem dX12_slips_10 : decode cX12_slips 10 = .ok (.ldc 107, 2) := by decide +kernel
theorem dX12_slips_12 : decode cX12_slips 12 = .ok (.istore 4, 2) := by decide +kernel
theorem dX12_slips_14 : decode cX12_slips 14 = .ok (.iconst 0, 1) := by decide +kernel
theorem dX12_slips_15 : decode cX12_slips 15 = .ok (.istore 5, 2) := by decide +kernel
theorem dX12_slips_17 : decode cX12_slips 17 = .ok (.iload 5, 2) := by decide +kernel
theorem dX12_slips_19 : decode cX12_slips 19 = .ok (.aload_n 0, 1) := by decide +kernel
theorem dX12_slips_20 : decode cX12_slips 20 = .ok (.getfield 47, 3) := by decide +kernel
theorem dX12_slips_23 : decode cX12_slips 23 = .ok (.iconst 0, 1) := by decide +kernel
theorem dX12_slips_24 : decode cX12_slips 24 = .ok (.iaload, 1) := by decide +kernel
theorem dX12_slips_25 : decode cX12_slips 25 = .ok (.if_icmp .ge 46, 3) := by decide +kernel
theorem dX12_slips_28 : decode cX12_slips 28 = .ok (.aload_n 0, 1) := by decide +kernel
theorem dX12_slips_29 : decode cX12_slips 29 = .ok (.getfield 53, 3) := by decide +kernel
theorem dX12_slips_32 : decode cX12_slips 32 = .ok (.iload 5, 2) := by decide +kernel
theorem dX12_slips_34 : decode cX12_slips 34 = .ok (.iaload, 1) := by decide +kernel
theorem dX12_slips_35 : decode cX12_slips 35 = .ok (.iload_n 1, 1) := by decide +kernel
theorem dX12_slips_36 : decode cX12_slips 36 = .ok (.if_icmp .le 25, 3) := by decide +kernel
theorem dX12_slips_39 : decode cX12_slips 39 = .ok (.aload_n 0, 1) := by decide +kernel
theorem dX12_slips_40 : decode cX12_slips 40 = .ok (.getfield 56, 3) := by decide +kernel
theorem dX12_slips_43 : decode cX12_slips 43 = .ok (.iload 5, 2) := by decide +kernel
theorem dX12_slips_45 : decode cX12_slips 45 = .ok (.iaload, 1) := by decide +kernel
theorem dX12_slips_46 : decode cX12_slips 46 = .ok (.iload 4, 2) := by decide +kernel
theorem dX12_slips_48 : decode cX12_slips 48 = .ok (.if_icmp .ge 13, 3) := by decide +kernel
theorem dX12_slips_51 : decode cX12_slips 51 = .ok (.aload_n 0, 1) := by decide +kernel
theorem dX12_slips_52 : decode cX12_slips 52 = .ok (.getfield 56, 3) := by decide +kernel
theorem dX12_slips_55 : decode cX12_slips 55 = .ok (.iload 5, 2) := by decide +kernel
theorem dX12_slips_57 : decode cX12_slips 57 = .ok (.iaload, 1) := by decide +kernel
theorem dX12_slips_58 : decode cX12_slips 58 = .ok (.goto 5, 3) := by decide +kernel
theorem dX12_slips_61 : decode cX12_slips 61 = .ok (.iload 4, 2) := by decide +kernel
theorem dX12_slips_63 : decode cX12_slips 63 = .ok (.istore 4, 2) := by decide +kernel
theorem dX12_slips_65 : decode cX12_slips 65 = .ok (.iinc 5 1, 3) := by decide +kernel
theorem dX12_slips_68 : decode cX12_slips 68 = .ok (.goto (-51), 3) := by decide +kernel
theorem dX12_slips_71 : decode cX12_slips 71 = .ok (.iload 4, 2) := by decide +kernel
theorem dX12_slips_73 : decode cX12_slips 73 = .ok (.ldc 107, 2) := by decide +kernel
theorem dX12_slips_75 : decode cX12_slips 75 = .ok (.if_icmp .ge 7, 3) := by decide +kernel
theorem dX12_slips_78 : decode cX12_slips 78 = .ok (.iconst 1, 1) := by decide +kernel
theorem dX12_slips_79 : decode cX12_slips 79 = .ok (.goto 4, 3) := by decide +kernel
theorem dX12_slips_82 : decode cX12_slips 82 = .ok (.iconst 0, 1) := by decide +kernel
theorem dX12_slips_83 : decode cX12_slips 83 = .ok (.istore_n 3, 1) := by decide +kernel
theorem dX12_slips_84 : decode cX12_slips 84 = .ok (.iload 4, 2) := by decide +kernel
theorem dX12_slips_86 : decode cX12_slips 86 = .ok (.istore_n 1, 1) := by decide +kernel
theorem dX12_slips_87 : decode cX12_slips 87 = .ok (.iload_n 2, 1) := by decide +kernel
theorem dX12_slips_88 : decode cX12_slips 88 = .ok (.iload_n 3, 1) := by decide +kernel
theorem dX12_slips_89 : decode cX12_slips 89 = .ok (.ifCond .eq 7, 3) := by decide +kernel
theorem dX12_slips_92 : decode cX12_slips 92 = .ok (.iconst 1, 1) := by decide +kernel
theorem dX12_slips_93 : decode cX12_slips 93 = .ok (.goto 4, 3) := by decide +kernel
theorem dX12_slips_96 : decode cX12_slips 96 = .ok (.iconst 0, 1) := by decide +kernel
theorem dX12_slips_97 : decode cX12_slips 97 = .ok (.iadd, 1) := by decide +kernel
theorem dX12_slips_98 : decode cX12_slips 98 = .ok (.istore_n 2, 1) := by decide +kernel
theorem dX12_slips_99 : decode cX12_slips 99 = .ok (.goto (-93), 3) := by decide +kernel
theorem dX12_slips_102 : decode cX12_slips 102 = .ok (.iconst 0, 1) := by decide +kernel
theorem dX12_slips_103 : decode cX12_slips 103 = .ok (.istore 4, 2) := by decide +kernel
theorem dX12_slips_105 : decode cX12_slips 105 = .ok (.iload 4, 2) := by decide +kernel
theorem dX12_slips_107 : decode cX12_slips 107 = .ok (.bipush 6, 2) := by decide +kernel
theorem dX12_slips_109 : decode cX12_slips 109 = .ok (.if_icmp .ge 67, 3) := by decide +kernel
theorem dX12_slips_112 : decode cX12_slips 112 = .ok (.iconst 0, 1) := by decide +kernel
theorem dX12_slips_113 : decode cX12_slips 113 = .ok (.istore 5, 2) := by decide +kernel
theorem dX12_slips_115 : decode cX12_slips 115 = .ok (.iconst 0, 1) := by decide +kernel
theorem dX12_slips_116 : decode cX12_slips 116 = .ok (.istore 6, 2) := by decide +kernel
theorem dX12_slips_118 : decode cX12_slips 118 = .ok (.iload 6, 2) := by decide +kernel
theorem dX12_slips_120 : decode cX12_slips 120 = .ok (.aload_n 0, 1) := by decide +kernel
theorem dX12_slips_121 : decode cX12_slips 121 = .ok (.getfield 47, 3) := by decide +kernel
theorem dX12_slips_124 : decode cX12_slips 124 = .ok (.iconst 0, 1) := by decide +kernel
theorem dX12_slips_125 : decode cX12_slips 125 = .ok (.iaload, 1) := by decide +kernel
theorem dX12_slips_126 : decode cX12_slips 126 = .ok (.if_icmp .ge 31, 3) := by decide +kernel
theorem dX12_slips_129 : decode cX12_slips 129 = .ok (.iload 5, 2) := by decide +kernel
theorem dX12_slips_131 : decode cX12_slips 131 = .ok (.aload_n 0, 1) := by decide +kernel
theorem dX12_slips_132 : decode cX12_slips 132 = .ok (.getfield 50, 3) := by decide +kernel
theorem dX12_slips_135 : decode cX12_slips 135 = .ok (.iload 6, 2) := by decide +kernel
theorem dX12_slips_137 : decode cX12_slips 137 = .ok (.iaload, 1) := by decide +kernel
theorem dX12_slips_138 : decode cX12_slips 138 = .ok (.iload 4, 2) := by decide +kernel
theorem dX12_slips_140 : decode cX12_slips 140 = .ok (.if_icmp .ne 7, 3) := by decide +kernel
theorem dX12_slips_143 : decode cX12_slips 143 = .ok (.iconst 1, 1) := by decide +kernel
theorem dX12_slips_144 : decode cX12_slips 144 = .ok (.goto 4, 3) := by decide +kernel
theorem dX12_slips_147 : decode cX12_slips 147 = .ok (.iconst 0, 1) := by decide +kernel
theorem dX12_slips_148 : decode cX12_slips 148 = .ok (.iadd, 1) := by decide +kernel
theorem dX12_slips_149 : decode cX12_slips 149 = .ok (.istore 5, 2) := by decide +kernel
theorem dX12_slips_151 : decode cX12_slips 151 = .ok (.iinc 6 1, 3) := by decide +kernel
theorem dX12_slips_154 : decode cX12_slips 154 = .ok (.goto (-36), 3) := by decide +kernel
theorem dX12_slips_157 : decode cX12_slips 157 = .ok (.iload 5, 2) := by decide +kernel
theorem dX12_slips_159 : decode cX12_slips 159 = .ok (.iload_n 2, 1) := by decide +kernel
theorem dX12_slips_160 : decode cX12_slips 160 = .ok (.if_icmp .le 8, 3) := by decide +kernel
theorem dX12_slips_163 : decode cX12_slips 163 = .ok (.iload 5, 2) := by decide +kernel
theorem dX12_slips_165 : decode cX12_slips 165 = .ok (.goto 4, 3) := by decide +kernel
theorem dX12_slips_168 : decode cX12_slips 168 = .ok (.iload_n 2, 1) := by decide +kernel
theorem dX12_slips_169 : decode cX12_slips 169 = .ok (.istore_n 2, 1) := by decide +kernel
theorem dX12_slips_170 : decode cX12_slips 170 = .ok (.iinc 4 1, 3) := by decide +kernel
theorem dX12_slips_173 : decode cX12_slips 173 = .ok (.goto (-68), 3) := by decide +kernel
theorem dX12_slips_176 : decode cX12_slips 176 = .ok (.iload_n 2, 1) := by decide +kernel
theorem dX12_slips_177 : decode cX12_slips 177 = .ok (.ireturn, 1) := by decide +kernel
set_option maxRecDepth 20000 in
theorem ggX12_joinedBy_X12_in : GoodIn wsX12_joinedBy wsX12_in := goodIn_r _ [8] (by decide +kernel) (by decide +kernel)
set_option maxRecDepth 20000 in
theorem gX12_joinedBy_X12_in : GoodIn wsX12_joinedBy (va_wsS RX12 86 yX12_in wsX12_in) := goodIn_app (goodIn_of _ (by decide +kernel)) ggX12_joinedBy_X12_in
theorem dX12_joinedBy_0 : decode cX12_joinedBy 0 = .ok (.iconst 0, 1) := by decide +kernel
theorem dX12_joinedBy_1 : decode cX12_joinedBy 1 = .ok (.istore_n 2, 1) := by decide +kernel
theorem dX12_joinedBy_2 : decode cX12_joinedBy 2 = .ok (.iconst 0, 1) := by decide +kernel
theorem dX12_joinedBy_3 : decode cX12_joinedBy 3 = .ok (.istore_n 3, 1) := by decide +kernel
theorem dX12_joinedBy_4 : decode cX12_joinedBy 4 = .ok (.iload_n 3, 1) := by decide +kernel
theorem dX12_joinedBy_5 : decode cX12_joinedBy 5 = .ok (.aload_n 0, 1) := by decide +kernel
theorem dX12_joinedBy_6 : decode cX12_joinedBy 6 = .ok (.getfield 47, 3) := by decide +kernel
theorem dX12_joinedBy_9 : decode cX12_joinedBy 9 = .ok (.iconst 0, 1) := by decide +kernel
theorem dX12_joinedBy_10 : decode cX12_joinedBy 10 = .ok (.iaload, 1) := by decide +kernel
theorem dX12_joinedBy_11 : decode cX12_joinedBy 11 = .ok (.if_icmp .ge 43, 3) := by decide +kernel
theorem dX12_joinedBy_14 : decode cX12_joinedBy 14 = .ok (.iload_n 2, 1) := by decide +kernel
theorem dX12_joinedBy_15 : decode cX12_joinedBy 15 = .ok (.iload_n 1, 1) := by decide +kernel
theorem dX12_joinedBy_16 : decode cX12_joinedBy 16 = .ok (.aload_n 0, 1) := by decide +kernel
theorem dX12_joinedBy_17 : decode cX12_joinedBy 17 = .ok (.getfield 53, 3) := by decide +kernel
theorem dX12_joinedBy_20 : decode cX12_joinedBy 20 = .ok (.iload_n 3, 1) := by decide +kernel
theorem dX12_joinedBy_21 : decode cX12_joinedBy 21 = .ok (.iaload, 1) := by decide +kernel
theorem dX12_joinedBy_22 : decode cX12_joinedBy 22 = .ok (.aload_n 0, 1) := by decide +kernel
theorem dX12_joinedBy_23 : decode cX12_joinedBy 23 = .ok (.getfield 56, 3) := by decide +kernel
theorem dX12_joinedBy_26 : decode cX12_joinedBy 26 = .ok (.iload_n 3, 1) := by decide +kernel
theorem dX12_joinedBy_27 : decode cX12_joinedBy 27 = .ok (.iaload, 1) := by decide +kernel
theorem dX12_joinedBy_28 : decode cX12_joinedBy 28 = .ok (.invokestatic 86, 3) := by decide +kernel
theorem dX12_joinedBy_31 : decode cX12_joinedBy 31 = .ok (.ifCond .eq 14, 3) := by decide +kernel
theorem dX12_joinedBy_34 : decode cX12_joinedBy 34 = .ok (.iconst 1, 1) := by decide +kernel
theorem dX12_joinedBy_35 : decode cX12_joinedBy 35 = .ok (.aload_n 0, 1) := by decide +kernel
theorem dX12_joinedBy_36 : decode cX12_joinedBy 36 = .ok (.getfield 50, 3) := by decide +kernel
theorem dX12_joinedBy_39 : decode cX12_joinedBy 39 = .ok (.iload_n 3, 1) := by decide +kernel
theorem dX12_joinedBy_40 : decode cX12_joinedBy 40 = .ok (.iaload, 1) := by decide +kernel
theorem dX12_joinedBy_41 : decode cX12_joinedBy 41 = .ok (.ishl, 1) := by decide +kernel
theorem dX12_joinedBy_42 : decode cX12_joinedBy 42 = .ok (.goto 4, 3) := by decide +kernel
theorem dX12_joinedBy_45 : decode cX12_joinedBy 45 = .ok (.iconst 0, 1) := by decide +kernel
theorem dX12_joinedBy_46 : decode cX12_joinedBy 46 = .ok (.ior, 1) := by decide +kernel
theorem dX12_joinedBy_47 : decode cX12_joinedBy 47 = .ok (.istore_n 2, 1) := by decide +kernel
theorem dX12_joinedBy_48 : decode cX12_joinedBy 48 = .ok (.iinc 3 1, 3) := by decide +kernel
theorem dX12_joinedBy_51 : decode cX12_joinedBy 51 = .ok (.goto (-47), 3) := by decide +kernel
theorem dX12_joinedBy_54 : decode cX12_joinedBy 54 = .ok (.iload_n 2, 1) := by decide +kernel
theorem dX12_joinedBy_55 : decode cX12_joinedBy 55 = .ok (.ireturn, 1) := by decide +kernel
theorem dX12_bitsIn_0 : decode cX12_bitsIn 0 = .ok (.iconst 0, 1) := by decide +kernel
theorem dX12_bitsIn_1 : decode cX12_bitsIn 1 = .ok (.istore_n 1, 1) := by decide +kernel
theorem dX12_bitsIn_2 : decode cX12_bitsIn 2 = .ok (.iconst 0, 1) := by decide +kernel
theorem dX12_bitsIn_3 : decode cX12_bitsIn 3 = .ok (.istore_n 2, 1) := by decide +kernel
theorem dX12_bitsIn_4 : decode cX12_bitsIn 4 = .ok (.iload_n 2, 1) := by decide +kernel
theorem dX12_bitsIn_5 : decode cX12_bitsIn 5 = .ok (.bipush 8, 2) := by decide +kernel
theorem dX12_bitsIn_7 : decode cX12_bitsIn 7 = .ok (.if_icmp .ge 17, 3) := by decide +kernel
theorem dX12_bitsIn_10 : decode cX12_bitsIn 10 = .ok (.iload_n 1, 1) := by decide +kernel
theorem dX12_bitsIn_11 : decode cX12_bitsIn 11 = .ok (.iload_n 0, 1) := by decide +kernel
theorem dX12_bitsIn_12 : decode cX12_bitsIn 12 = .ok (.iload_n 2, 1) := by decide +kernel
theorem dX12_bitsIn_13 : decode cX12_bitsIn 13 = .ok (.ishr, 1) := by decide +kernel
theorem dX12_bitsIn_14 : decode cX12_bitsIn 14 = .ok (.iconst 1, 1) := by decide +kernel
theorem dX12_bitsIn_15 : decode cX12_bitsIn 15 = .ok (.iand, 1) := by decide +kernel
theorem dX12_bitsIn_16 : decode cX12_bitsIn 16 = .ok (.iadd, 1) := by decide +kernel
theorem dX12_bitsIn_17 : decode cX12_bitsIn 17 = .ok (.istore_n 1, 1) := by decide +kernel
theorem dX12_bitsIn_18 : decode cX12_bitsIn 18 = .ok (.iinc 2 1, 3) := by decide +kernel
theorem dX12_bitsIn_21 : decode cX12_bitsIn 21 = .ok (.goto (-17), 3) := by decide +kernel
theorem dX12_bitsIn_24 : decode cX12_bitsIn 24 = .ok (.iload_n 1, 1) := by decide +kernel
theorem dX12_bitsIn_25 : decode cX12_bitsIn 25 = .ok (.ireturn, 1) := by decide +kernel
set_option maxRecDepth 20000 in
theorem ggX12_joined_X12_in : GoodIn wsX12_joined wsX12_in := goodIn_r _ [4] (by decide +kernel) (by decide +kernel)
set_option maxRecDepth 20000 in
theorem gX12_joined_X12_in : GoodIn wsX12_joined (va_wsS RX12 86 yX12_in wsX12_in) := goodIn_app (goodIn_of _ (by decide +kernel)) ggX12_joined_X12_in
set_option maxRecDepth 20000 in
theorem ggX12_joined_X12_joinedBy : GoodIn wsX12_joined wsX12_joinedBy := goodIn_r _ [8, 9, 10, 11, 12, 1, 2, 3, 4, 13, 14, 15, 16, 17, 18, 19, 20, 21, 22, 23, 24, 25, 26, 27, 28, 29, 30, 31, 32, 33, 34, 35, 36, 37, 38, 39, 40, 41] (by decide +kernel) (by decide +kernel)
set_option maxRecDepth 20000 in
theorem gX12_joined_X12_joinedBy : GoodIn wsX12_joined (wsV RX12 153 RX12 yX12_joinedBy wsX12_joinedBy) := goodIn_app (goodIn_of _ (by decide +kernel)) ggX12_joined_X12_joinedBy
theorem dX12_joined_0 : decode cX12_joined 0 = .ok (.iload_n 1, 1) := by decide +kernel
theorem dX12_joined_1 : decode cX12_joined 1 = .ok (.iconst 0, 1) := by decide +kernel
theorem dX12_joined_2 : decode cX12_joined 2 = .ok (.sipush 9999, 3) := by decide +kernel
theorem dX12_joined_5 : decode cX12_joined 5 = .ok (.invokestatic 86, 3) := by decide +kernel
theorem dX12_joined_8 : decode cX12_joined 8 = .ok (.ifCond .eq 11, 3) := by decide +kernel
theorem dX12_joined_11 : decode cX12_joined 11 = .ok (.aload_n 0, 1) := by decide +kernel
theorem dX12_joined_12 : decode cX12_joined 12 = .ok (.iload_n 1, 1) := by decide +kernel
theorem dX12_joined_13 : decode cX12_joined 13 = .ok (.invokevirtual 153, 3) := by decide +kernel
theorem dX12_joined_16 : decode cX12_joined 16 = .ok (.goto 4, 3) := by decide +kernel
theorem dX12_joined_19 : decode cX12_joined 19 = .ok (.iconst (-1), 1) := by decide +kernel
theorem dX12_joined_20 : decode cX12_joined 20 = .ok (.ireturn, 1) := by decide +kernel
set_option maxRecDepth 20000 in
theorem ggX12_whole_X12_in : GoodIn wsX12_whole wsX12_in := goodIn_r _ [6] (by decide +kernel) (by decide +kernel)
set_option maxRecDepth 20000 in
theorem gX12_whole_X12_in : GoodIn wsX12_whole (va_wsS RX12 86 yX12_in wsX12_in) := goodIn_app (goodIn_of _ (by decide +kernel)) ggX12_whole_X12_in
set_option maxRecDepth 20000 in
theorem ggX12_whole_X12_joinedBy : GoodIn wsX12_whole wsX12_joinedBy := goodIn_r _ [10, 1, 2, 11, 12, 3, 4, 5, 6, 16, 17, 18, 19, 20, 21, 22, 23, 24, 25, 26, 27, 28, 29, 30, 31, 32, 33, 34, 35, 36, 37, 38, 39, 40, 41, 42, 43, 44] (by decide +kernel) (by decide +kernel)
set_option maxRecDepth 20000 in
theorem gX12_whole_X12_joinedBy : GoodIn wsX12_whole (wsV RX12 153 RX12 yX12_joinedBy wsX12_joinedBy) := goodIn_app (goodIn_of _ (by decide +kernel)) ggX12_whole_X12_joinedBy
set_option maxRecDepth 20000 in
theorem ggX12_whole_X12_bitsIn : GoodIn wsX12_whole wsX12_bitsIn := goodIn_r _ [15] (by decide +kernel) (by decide +kernel)
set_option maxRecDepth 20000 in
theorem gX12_whole_X12_bitsIn : GoodIn wsX12_whole (va_wsS RX12 156 yX12_bitsIn wsX12_bitsIn) := goodIn_app (goodIn_of _ (by decide +kernel)) ggX12_whole_X12_bitsIn
theorem dX12_whole_0 : decode cX12_whole 0 = .ok (.iload_n 1, 1) := by decide +kernel
theorem dX12_whole_1 : decode cX12_whole 1 = .ok (.iconst 0, 1) := by decide +kernel
theorem dX12_whole_2 : decode cX12_whole 2 = .ok (.iconst 1, 1) := by decide +kernel
theorem dX12_whole_3 : decode cX12_whole 3 = .ok (.invokestatic 86, 3) := by decide +kernel
theorem dX12_whole_6 : decode cX12_whole 6 = .ok (.ifCond .ne 5, 3) := by decide +kernel
theorem dX12_whole_9 : decode cX12_whole 9 = .ok (.iconst (-1), 1) := by decide +kernel
theorem dX12_whole_10 : decode cX12_whole 10 = .ok (.ireturn, 1) := by decide +kernel
theorem dX12_whole_11 : decode cX12_whole 11 = .ok (.bipush (-9), 2) := by decide +kernel
theorem dX12_whole_13 : decode cX12_whole 13 = .ok (.istore_n 2, 1) := by decide +kernel
theorem dX12_whole_14 : decode cX12_whole 14 = .ok (.iconst 0, 1) := by decide +kernel
theorem dX12_whole_15 : decode cX12_whole 15 = .ok (.istore_n 3, 1) := by decide +kernel
theorem dX12_whole_16 : decode cX12_whole 16 = .ok (.iconst 0, 1) := by decide +kernel
theorem dX12_whole_17 : decode cX12_whole 17 = .ok (.istore 4, 2) := by decide +kernel
theorem dX12_whole_19 : decode cX12_whole 19 = .ok (.iload 4, 2) := by decide +kernel
theorem dX12_whole_21 : decode cX12_whole 21 = .ok (.aload_n 0, 1) := by decide +kernel
theorem dX12_whole_22 : decode cX12_whole 22 = .ok (.getfield 47, 3) := by decide +kernel
theorem dX12_whole_25 : decode cX12_whole 25 = .ok (.iconst 0, 1) := by decide +kernel
theorem dX12_whole_26 : decode cX12_whole 26 = .ok (.iaload, 1) := by decide +kernel
theorem dX12_whole_27 : decode cX12_whole 27 = .ok (.if_icmp .ge 84, 3) := by decide +kernel
theorem dX12_whole_30 : decode cX12_whole 30 = .ok (.aload_n 0, 1) := by decide +kernel
theorem dX12_whole_31 : decode cX12_whole 31 = .ok (.aload_n 0, 1) := by decide +kernel
theorem dX12_whole_32 : decode cX12_whole 32 = .ok (.getfield 53, 3) := by decide +kernel
theorem dX12_whole_35 : decode cX12_whole 35 = .ok (.iload 4, 2) := by decide +kernel
theorem dX12_whole_37 : decode cX12_whole 37 = .ok (.iaload, 1) := by decide +kernel
theorem dX12_whole_38 : decode cX12_whole 38 = .ok (.invokevirtual 153, 3) := by decide +kernel
theorem dX12_whole_41 : decode cX12_whole 41 = .ok (.invokestatic 156, 3) := by decide +kernel
theorem dX12_whole_44 : decode cX12_whole 44 = .ok (.istore 5, 2) := by decide +kernel
theorem dX12_whole_46 : decode cX12_whole 46 = .ok (.iload 5, 2) := by decide +kernel
theorem dX12_whole_48 : decode cX12_whole 48 = .ok (.iload_n 3, 1) := by decide +kernel
theorem dX12_whole_49 : decode cX12_whole 49 = .ok (.if_icmp .gt 20, 3) := by decide +kernel
theorem dX12_whole_52 : decode cX12_whole 52 = .ok (.iload 5, 2) := by decide +kernel
theorem dX12_whole_54 : decode cX12_whole 54 = .ok (.iload_n 3, 1) := by decide +kernel
theorem dX12_whole_55 : decode cX12_whole 55 = .ok (.if_icmp .ne 18, 3) := by decide +kernel
theorem dX12_whole_58 : decode cX12_whole 58 = .ok (.aload_n 0, 1) := by decide +kernel
theorem dX12_whole_59 : decode cX12_whole 59 = .ok (.getfield 53, 3) := by decide +kernel
theorem dX12_whole_62 : decode cX12_whole 62 = .ok (.iload 4, 2) := by decide +kernel
theorem dX12_whole_64 : decode cX12_whole 64 = .ok (.iaload, 1) := by decide +kernel
theorem dX12_whole_65 : decode cX12_whole 65 = .ok (.iload_n 2, 1) := by decide +kernel
theorem dX12_whole_66 : decode cX12_whole 66 = .ok (.if_icmp .ge 7, 3) := by decide +kernel
theorem dX12_whole_69 : decode cX12_whole 69 = .ok (.iconst 1, 1) := by decide +kernel
theorem dX12_whole_70 : decode cX12_whole 70 = .ok (.goto 4, 3) := by decide +kernel
theorem dX12_whole_73 : decode cX12_whole 73 = .ok (.iconst 0, 1) := by decide +kernel
theorem dX12_whole_74 : decode cX12_whole 74 = .ok (.istore 6, 2) := by decide +kernel
theorem dX12_whole_76 : decode cX12_whole 76 = .ok (.iload 6, 2) := by decide +kernel
theorem dX12_whole_78 : decode cX12_whole 78 = .ok (.ifCond .eq 13, 3) := by decide +kernel
theorem dX12_whole_81 : decode cX12_whole 81 = .ok (.aload_n 0, 1) := by decide +kernel
theorem dX12_whole_82 : decode cX12_whole 82 = .ok (.getfield 53, 3) := by decide +kernel
theorem dX12_whole_85 : decode cX12_whole 85 = .ok (.iload 4, 2) := by decide +kernel
theorem dX12_whole_87 : decode cX12_whole 87 = .ok (.iaload, 1) := by decide +kernel
theorem dX12_whole_88 : decode cX12_whole 88 = .ok (.goto 4, 3) := by decide +kernel
theorem dX12_whole_91 : decode cX12_whole 91 = .ok (.iload_n 2, 1) := by decide +kernel
theorem dX12_whole_92 : decode cX12_whole 92 = .ok (.istore_n 2, 1) := by decide +kernel
theorem dX12_whole_93 : decode cX12_whole 93 = .ok (.iload 6, 2) := by decide +kernel
theorem dX12_whole_95 : decode cX12_whole 95 = .ok (.ifCond .eq 8, 3) := by decide +kernel
theorem dX12_whole_98 : decode cX12_whole 98 = .ok (.iload 5, 2) := by decide +kernel
theorem dX12_whole_100 : decode cX12_whole 100 = .ok (.goto 4, 3) := by decide +kernel
theorem dX12_whole_103 : decode cX12_whole 103 = .ok (.iload_n 3, 1) := by decide +kernel
theorem dX12_whole_104 : decode cX12_whole 104 = .ok (.istore_n 3, 1) := by decide +kernel
theorem dX12_whole_105 : decode cX12_whole 105 = .ok (.iinc 4 1, 3) := by decide +kernel
theorem dX12_whole_108 : decode cX12_whole 108 = .ok (.goto (-89), 3) := by decide +kernel
theorem dX12_whole_111 : decode cX12_whole 111 = .ok (.iload_n 2, 1) := by decide +kernel
theorem dX12_whole_112 : decode cX12_whole 112 = .ok (.bipush (-9), 2) := by decide +kernel
theorem dX12_whole_114 : decode cX12_whole 114 = .ok (.if_icmp .eq 7, 3) := by decide +kernel
theorem dX12_whole_117 : decode cX12_whole 117 = .ok (.iload_n 1, 1) := by decide +kernel
theorem dX12_whole_118 : decode cX12_whole 118 = .ok (.ifCond .ne 7, 3) := by decide +kernel
theorem dX12_whole_121 : decode cX12_whole 121 = .ok (.iload_n 2, 1) := by decide +kernel
theorem dX12_whole_122 : decode cX12_whole 122 = .ok (.goto 4, 3) := by decide +kernel
theorem dX12_whole_125 : decode cX12_whole 125 = .ok (.iload_n 3, 1) := by decide +kernel
theorem dX12_whole_126 : decode cX12_whole 126 = .ok (.ireturn, 1) := by decide +kernel
set_option maxRecDepth 20000 in
theorem ggX12_tale_X12_in : GoodIn wsX12_tale wsX12_in := goodIn_r _ [5] (by decide +kernel) (by decide +kernel)
set_option maxRecDepth 20000 in
theorem gX12_tale_X12_in : GoodIn wsX12_tale (va_wsS RX12 86 yX12_in wsX12_in) := goodIn_app (goodIn_of _ (by decide +kernel)) ggX12_tale_X12_in
theorem dX12_tale_0 : decode cX12_tale 0 = .ok (.iload_n 1, 1) := by decide +kernel
theorem dX12_tale_1 : decode cX12_tale 1 = .ok (.iconst 0, 1) := by decide +kernel
theorem dX12_tale_2 : decode cX12_tale 2 = .ok (.sipush 9999, 3) := by decide +kernel
theorem dX12_tale_5 : decode cX12_tale 5 = .ok (.invokestatic 86, 3) := by decide +kernel
theorem dX12_tale_8 : decode cX12_tale 8 = .ok (.ifCond .eq 44, 3) := by decide +kernel
theorem dX12_tale_11 : decode cX12_tale 11 = .ok (.iload_n 2, 1) := by decide +kernel
theorem dX12_tale_12 : decode cX12_tale 12 = .ok (.iconst 0, 1) := by decide +kernel
theorem dX12_tale_13 : decode cX12_tale 13 = .ok (.bipush 50, 2) := by decide +kernel
theorem dX12_tale_15 : decode cX12_tale 15 = .ok (.invokestatic 86, 3) := by decide +kernel
theorem dX12_tale_18 : decode cX12_tale 18 = .ok (.ifCond .eq 34, 3) := by decide +kernel
theorem dX12_tale_21 : decode cX12_tale 21 = .ok (.iload_n 3, 1) := by decide +kernel
theorem dX12_tale_22 : decode cX12_tale 22 = .ok (.iconst 1, 1) := by decide +kernel
theorem dX12_tale_23 : decode cX12_tale 23 = .ok (.bipush 99, 2) := by decide +kernel
theorem dX12_tale_25 : decode cX12_tale 25 = .ok (.invokestatic 86, 3) := by decide +kernel
theorem dX12_tale_28 : decode cX12_tale 28 = .ok (.ifCond .eq 24, 3) := by decide +kernel
theorem dX12_tale_31 : decode cX12_tale 31 = .ok (.iload 4, 2) := by decide +kernel
theorem dX12_tale_33 : decode cX12_tale 33 = .ok (.iload_n 3, 1) := by decide +kernel
theorem dX12_tale_34 : decode cX12_tale 34 = .ok (.bipush 99, 2) := by decide +kernel
theorem dX12_tale_36 : decode cX12_tale 36 = .ok (.invokestatic 86, 3) := by decide +kernel
theorem dX12_tale_39 : decode cX12_tale 39 = .ok (.ifCond .eq 13, 3) := by decide +kernel
theorem dX12_tale_42 : decode cX12_tale 42 = .ok (.iload 5, 2) := by decide +kernel
theorem dX12_tale_44 : decode cX12_tale 44 = .ok (.iconst 0, 1) := by decide +kernel
theorem dX12_tale_45 : decode cX12_tale 45 = .ok (.iconst 1, 1) := by decide +kernel
theorem dX12_tale_46 : decode cX12_tale 46 = .ok (.invokestatic 86, 3) := by decide +kernel
theorem dX12_tale_49 : decode cX12_tale 49 = .ok (.ifCond .ne 6, 3) := by decide +kernel
theorem dX12_tale_52 : decode cX12_tale 52 = .ok (.ldc 122, 2) := by decide +kernel
theorem dX12_tale_54 : decode cX12_tale 54 = .ok (.ireturn, 1) := by decide +kernel
theorem dX12_tale_55 : decode cX12_tale 55 = .ok (.iload_n 1, 1) := by decide +kernel
theorem dX12_tale_56 : decode cX12_tale 56 = .ok (.iload_n 2, 1) := by decide +kernel
theorem dX12_tale_57 : decode cX12_tale 57 = .ok (.iload 5, 2) := by decide +kernel
theorem dX12_tale_59 : decode cX12_tale 59 = .ok (.ifCond .ne 8, 3) := by decide +kernel
theorem dX12_tale_62 : decode cX12_tale 62 = .ok (.iload 4, 2) := by decide +kernel
theorem dX12_tale_64 : decode cX12_tale 64 = .ok (.goto 4, 3) := by decide +kernel
theorem dX12_tale_67 : decode cX12_tale 67 = .ok (.iload_n 3, 1) := by decide +kernel
theorem dX12_tale_68 : decode cX12_tale 68 = .ok (.imul, 1) := by decide +kernel
theorem dX12_tale_69 : decode cX12_tale 69 = .ok (.isub, 1) := by decide +kernel
theorem dX12_tale_70 : decode cX12_tale 70 = .ok (.ireturn, 1) := by decide +kernel
set_option maxRecDepth 20000 in
theorem ggX12_known_X12_in : GoodIn wsX12_known wsX12_in := goodIn_r _ [6] (by decide +kernel) (by decide +kernel)
set_option maxRecDepth 20000 in
theorem gX12_known_X12_in : GoodIn wsX12_known (va_wsS RX12 86 yX12_in wsX12_in) := goodIn_app (goodIn_of _ (by decide +kernel)) ggX12_known_X12_in
theorem dX12_known_0 : decode cX12_known 0 = .ok (.iload_n 1, 1) := by decide +kernel
theorem dX12_known_1 : decode cX12_known 1 = .ok (.iconst 0, 1) := by decide +kernel
theorem dX12_known_2 : decode cX12_known 2 = .ok (.sipush 9999, 3) := by decide +kernel
theorem dX12_known_5 : decode cX12_known 5 = .ok (.invokestatic 86, 3) := by decide +kernel
theorem dX12_known_8 : decode cX12_known 8 = .ok (.ifCond .eq 29, 3) := by decide +kernel
theorem dX12_known_11 : decode cX12_known 11 = .ok (.aload_n 0, 1) := by decide +kernel
theorem dX12_known_12 : decode cX12_known 12 = .ok (.getfield 59, 3) := by decide +kernel
theorem dX12_known_15 : decode cX12_known 15 = .ok (.iconst 0, 1) := by decide +kernel
theorem dX12_known_16 : decode cX12_known 16 = .ok (.iaload, 1) := by decide +kernel
theorem dX12_known_17 : decode cX12_known 17 = .ok (.ifCond .le 22, 3) := by decide +kernel
theorem dX12_known_20 : decode cX12_known 20 = .ok (.iload_n 1, 1) := by decide +kernel
theorem dX12_known_21 : decode cX12_known 21 = .ok (.aload_n 0, 1) := by decide +kernel
theorem dX12_known_22 : decode cX12_known 22 = .ok (.getfield 62, 3) := by decide +kernel
theorem dX12_known_25 : decode cX12_known 25 = .ok (.aload_n 0, 1) := by decide +kernel
theorem dX12_known_26 : decode cX12_known 26 = .ok (.getfield 59, 3) := by decide +kernel
theorem dX12_known_29 : decode cX12_known 29 = .ok (.iconst 0, 1) := by decide +kernel
theorem dX12_known_30 : decode cX12_known 30 = .ok (.iaload, 1) := by decide +kernel
theorem dX12_known_31 : decode cX12_known 31 = .ok (.iconst 1, 1) := by decide +kernel
theorem dX12_known_32 : decode cX12_known 32 = .ok (.isub, 1) := by decide +kernel
theorem dX12_known_33 : decode cX12_known 33 = .ok (.iaload, 1) := by decide +kernel
theorem dX12_known_34 : decode cX12_known 34 = .ok (.if_icmp .gt 5, 3) := by decide +kernel
theorem dX12_known_37 : decode cX12_known 37 = .ok (.iconst (-1), 1) := by decide +kernel
theorem dX12_known_38 : decode cX12_known 38 = .ok (.ireturn, 1) := by decide +kernel
theorem dX12_known_39 : decode cX12_known 39 = .ok (.aload_n 0, 1) := by decide +kernel
theorem dX12_known_40 : decode cX12_known 40 = .ok (.getfield 59, 3) := by decide +kernel
theorem dX12_known_43 : decode cX12_known 43 = .ok (.iconst 0, 1) := by decide +kernel
theorem dX12_known_44 : decode cX12_known 44 = .ok (.iaload, 1) := by decide +kernel
theorem dX12_known_45 : decode cX12_known 45 = .ok (.bipush 16, 2) := by decide +kernel
theorem dX12_known_47 : decode cX12_known 47 = .ok (.if_icmp .ne 6, 3) := by decide +kernel
theorem dX12_known_50 : decode cX12_known 50 = .ok (.bipush (-3), 2) := by decide +kernel
theorem dX12_known_52 : decode cX12_known 52 = .ok (.ireturn, 1) := by decide +kernel
theorem dX12_known_53 : decode cX12_known 53 = .ok (.aload_n 0, 1) := by decide +kernel
theorem dX12_known_54 : decode cX12_known 54 = .ok (.getfield 62, 3) := by decide +kernel
theorem dX12_known_57 : decode cX12_known 57 = .ok (.aload_n 0, 1) := by decide +kernel
theorem dX12_known_58 : decode cX12_known 58 = .ok (.getfield 59, 3) := by decide +kernel
theorem dX12_known_61 : decode cX12_known 61 = .ok (.iconst 0, 1) := by decide +kernel
theorem dX12_known_62 : decode cX12_known 62 = .ok (.iaload, 1) := by decide +kernel
theorem dX12_known_63 : decode cX12_known 63 = .ok (.iload_n 1, 1) := by decide +kernel
theorem dX12_known_64 : decode cX12_known 64 = .ok (.iastore, 1) := by decide +kernel
theorem dX12_known_65 : decode cX12_known 65 = .ok (.aload_n 0, 1) := by decide +kernel
theorem dX12_known_66 : decode cX12_known 66 = .ok (.getfield 59, 3) := by decide +kernel
theorem dX12_known_69 : decode cX12_known 69 = .ok (.iconst 0, 1) := by decide +kernel
theorem dX12_known_70 : decode cX12_known 70 = .ok (.dup2, 1) := by decide +kernel
theorem dX12_known_71 : decode cX12_known 71 = .ok (.iaload, 1) := by decide +kernel
theorem dX12_known_72 : decode cX12_known 72 = .ok (.iconst 1, 1) := by decide +kernel
theorem dX12_known_73 : decode cX12_known 73 = .ok (.iadd, 1) := by decide +kernel
theorem dX12_known_74 : decode cX12_known 74 = .ok (.iastore, 1) := by decide +kernel
theorem dX12_known_75 : decode cX12_known 75 = .ok (.aload_n 0, 1) := by decide +kernel
theorem dX12_known_76 : decode cX12_known 76 = .ok (.getfield 59, 3) := by decide +kernel
theorem dX12_known_79 : decode cX12_known 79 = .ok (.iconst 0, 1) := by decide +kernel
theorem dX12_known_80 : decode cX12_known 80 = .ok (.iaload, 1) := by decide +kernel
theorem dX12_known_81 : decode cX12_known 81 = .ok (.ireturn, 1) := by decide +kernel
set_option maxRecDepth 20000 in
theorem ggX12_next_X12_in : GoodIn wsX12_next wsX12_in := goodIn_r _ [8] (by decide +kernel) (by decide +kernel)
set_option maxRecDepth 20000 in
theorem gX12_next_X12_in : GoodIn wsX12_next (va_wsS RX12 86 yX12_in wsX12_in) := goodIn_app (goodIn_of _ (by decide +kernel)) ggX12_next_X12_in
set_option maxRecDepth 20000 in
theorem ggX12_next_X12_inLeast : GoodIn wsX12_next wsX12_inLeast := goodIn_r _ [11, 12, 13, 7, 14] (by decide +kernel) (by decide +kernel)
set_option maxRecDepth 20000 in
theorem gX12_next_X12_inLeast : GoodIn wsX12_next (va_wsS RX12 159 yX12_inLeast wsX12_inLeast) := goodIn_app (goodIn_of _ (by decide +kernel)) ggX12_next_X12_inLeast
theorem dX12_next_0 : decode cX12_next 0 = .ok (.iload_n 1, 1) := by decide +kernel
theorem dX12_next_1 : decode cX12_next 1 = .ok (.iconst 0, 1) := by decide +kernel
theorem dX12_next_2 : decode cX12_next 2 = .ok (.sipush 9999, 3) := by decide +kernel
theorem dX12_next_5 : decode cX12_next 5 = .ok (.invokestatic 86, 3) := by decide +kernel
theorem dX12_next_8 : decode cX12_next 8 = .ok (.ifCond .eq 44, 3) := by decide +kernel
theorem dX12_next_11 : decode cX12_next 11 = .ok (.iload_n 2, 1) := by decide +kernel
theorem dX12_next_12 : decode cX12_next 12 = .ok (.iconst 0, 1) := by decide +kernel
theorem dX12_next_13 : decode cX12_next 13 = .ok (.iconst 1, 1) := by decide +kernel
theorem dX12_next_14 : decode cX12_next 14 = .ok (.invokestatic 86, 3) := by decide +kernel
theorem dX12_next_17 : decode cX12_next 17 = .ok (.ifCond .eq 35, 3) := by decide +kernel
theorem dX12_next_20 : decode cX12_next 20 = .ok (.aload_n 0, 1) := by decide +kernel
theorem dX12_next_21 : decode cX12_next 21 = .ok (.getfield 59, 3) := by decide +kernel
theorem dX12_next_24 : decode cX12_next 24 = .ok (.iconst 0, 1) := by decide +kernel
theorem dX12_next_25 : decode cX12_next 25 = .ok (.iaload, 1) := by decide +kernel
theorem dX12_next_26 : decode cX12_next 26 = .ok (.iconst 2, 1) := by decide +kernel
theorem dX12_next_27 : decode cX12_next 27 = .ok (.if_icmp .lt 25, 3) := by decide +kernel
theorem dX12_next_30 : decode cX12_next 30 = .ok (.aload_n 0, 1) := by decide +kernel
theorem dX12_next_31 : decode cX12_next 31 = .ok (.getfield 17, 3) := by decide +kernel
theorem dX12_next_34 : decode cX12_next 34 = .ok (.iconst 2, 1) := by decide +kernel
theorem dX12_next_35 : decode cX12_next 35 = .ok (.iaload, 1) := by decide +kernel
theorem dX12_next_36 : decode cX12_next 36 = .ok (.aload_n 0, 1) := by decide +kernel
theorem dX12_next_37 : decode cX12_next 37 = .ok (.getfield 62, 3) := by decide +kernel
theorem dX12_next_40 : decode cX12_next 40 = .ok (.aload_n 0, 1) := by decide +kernel
theorem dX12_next_41 : decode cX12_next 41 = .ok (.getfield 59, 3) := by decide +kernel
theorem dX12_next_44 : decode cX12_next 44 = .ok (.iconst 0, 1) := by decide +kernel
theorem dX12_next_45 : decode cX12_next 45 = .ok (.iaload, 1) := by decide +kernel
theorem dX12_next_46 : decode cX12_next 46 = .ok (.iconst 1, 1) := by decide +kernel
theorem dX12_next_47 : decode cX12_next 47 = .ok (.isub, 1) := by decide +kernel
theorem dX12_next_48 : decode cX12_next 48 = .ok (.iaload, 1) := by decide +kernel
theorem dX12_next_49 : decode cX12_next 49 = .ok (.if_icmp .ge 6, 3) := by decide +kernel
theorem dX12_next_52 : decode cX12_next 52 = .ok (.ldc 122, 2) := by decide +kernel
theorem dX12_next_54 : decode cX12_next 54 = .ok (.ireturn, 1) := by decide +kernel
theorem dX12_next_55 : decode cX12_next 55 = .ok (.aload_n 0, 1) := by decide +kernel
theorem dX12_next_56 : decode cX12_next 56 = .ok (.getfield 17, 3) := by decide +kernel
theorem dX12_next_59 : decode cX12_next 59 = .ok (.iconst 2, 1) := by decide +kernel
theorem dX12_next_60 : decode cX12_next 60 = .ok (.iaload, 1) := by decide +kernel
theorem dX12_next_61 : decode cX12_next 61 = .ok (.aload_n 0, 1) := by decide +kernel
theorem dX12_next_62 : decode cX12_next 62 = .ok (.getfield 62, 3) := by decide +kernel
theorem dX12_next_65 : decode cX12_next 65 = .ok (.aload_n 0, 1) := by decide +kernel
theorem dX12_next_66 : decode cX12_next 66 = .ok (.getfield 59, 3) := by decide +kernel
theorem dX12_next_69 : decode cX12_next 69 = .ok (.iconst 0, 1) := by decide +kernel
theorem dX12_next_70 : decode cX12_next 70 = .ok (.iaload, 1) := by decide +kernel
theorem dX12_next_71 : decode cX12_next 71 = .ok (.iconst 1, 1) := by decide +kernel
theorem dX12_next_72 : decode cX12_next 72 = .ok (.isub, 1) := by decide +kernel
theorem dX12_next_73 : decode cX12_next 73 = .ok (.iaload, 1) := by decide +kernel
theorem dX12_next_74 : decode cX12_next 74 = .ok (.isub, 1) := by decide +kernel
theorem dX12_next_75 : decode cX12_next 75 = .ok (.istore_n 3, 1) := by decide +kernel
theorem dX12_next_76 : decode cX12_next 76 = .ok (.iconst 0, 1) := by decide +kernel
theorem dX12_next_77 : decode cX12_next 77 = .ok (.istore 4, 2) := by decide +kernel
theorem dX12_next_79 : decode cX12_next 79 = .ok (.iconst 0, 1) := by decide +kernel
theorem dX12_next_80 : decode cX12_next 80 = .ok (.istore 5, 2) := by decide +kernel
theorem dX12_next_82 : decode cX12_next 82 = .ok (.iconst 1, 1) := by decide +kernel
theorem dX12_next_83 : decode cX12_next 83 = .ok (.istore 6, 2) := by decide +kernel
theorem dX12_next_85 : decode cX12_next 85 = .ok (.iload 6, 2) := by decide +kernel
theorem dX12_next_87 : decode cX12_next 87 = .ok (.aload_n 0, 1) := by decide +kernel
theorem dX12_next_88 : decode cX12_next 88 = .ok (.getfield 59, 3) := by decide +kernel
theorem dX12_next_91 : decode cX12_next 91 = .ok (.iconst 0, 1) := by decide +kernel
theorem dX12_next_92 : decode cX12_next 92 = .ok (.iaload, 1) := by decide +kernel
theorem dX12_next_93 : decode cX12_next 93 = .ok (.if_icmp .ge 68, 3) := by decide +kernel
theorem dX12_next_96 : decode cX12_next 96 = .ok (.aload_n 0, 1) := by decide +kernel
theorem dX12_next_97 : decode cX12_next 97 = .ok (.getfield 62, 3) := by decide +kernel
theorem dX12_next_100 : decode cX12_next 100 = .ok (.iload 6, 2) := by decide +kernel
theorem dX12_next_102 : decode cX12_next 102 = .ok (.iaload, 1) := by decide +kernel
theorem dX12_next_103 : decode cX12_next 103 = .ok (.aload_n 0, 1) := by decide +kernel
theorem dX12_next_104 : decode cX12_next 104 = .ok (.getfield 62, 3) := by decide +kernel
theorem dX12_next_107 : decode cX12_next 107 = .ok (.iload 6, 2) := by decide +kernel
theorem dX12_next_109 : decode cX12_next 109 = .ok (.iconst 1, 1) := by decide +kernel
theorem dX12_next_110 : decode cX12_next 110 = .ok (.isub, 1) := by decide +kernel
theorem dX12_next_111 : decode cX12_next 111 = .ok (.iaload, 1) := by decide +kernel
theorem dX12_next_112 : decode cX12_next 112 = .ok (.isub, 1) := by decide +kernel
theorem dX12_next_113 : decode cX12_next 113 = .ok (.istore 7, 2) := by decide +kernel
theorem dX12_next_115 : decode cX12_next 115 = .ok (.iload 4, 2) := by decide +kernel
theorem dX12_next_117 : decode cX12_next 117 = .ok (.iload 7, 2) := by decide +kernel
theorem dX12_next_119 : decode cX12_next 119 = .ok (.iload_n 3, 1) := by decide +kernel
theorem dX12_next_120 : decode cX12_next 120 = .ok (.if_icmp .le 7, 3) := by decide +kernel
theorem dX12_next_123 : decode cX12_next 123 = .ok (.iconst 1, 1) := by decide +kernel
theorem dX12_next_124 : decode cX12_next 124 = .ok (.goto 4, 3) := by decide +kernel
theorem dX12_next_127 : decode cX12_next 127 = .ok (.iconst 0, 1) := by decide +kernel
theorem dX12_next_128 : decode cX12_next 128 = .ok (.iadd, 1) := by decide +kernel
theorem dX12_next_129 : decode cX12_next 129 = .ok (.istore 4, 2) := by decide +kernel
theorem dX12_next_131 : decode cX12_next 131 = .ok (.iload 5, 2) := by decide +kernel
theorem dX12_next_133 : decode cX12_next 133 = .ok (.iload 7, 2) := by decide +kernel
theorem dX12_next_135 : decode cX12_next 135 = .ok (.iload_n 3, 1) := by decide +kernel
theorem dX12_next_136 : decode cX12_next 136 = .ok (.if_icmp .le 15, 3) := by decide +kernel
theorem dX12_next_139 : decode cX12_next 139 = .ok (.iload 7, 2) := by decide +kernel
theorem dX12_next_141 : decode cX12_next 141 = .ok (.iload_n 3, 1) := by decide +kernel
theorem dX12_next_142 : decode cX12_next 142 = .ok (.iload_n 1, 1) := by decide +kernel
theorem dX12_next_143 : decode cX12_next 143 = .ok (.iadd, 1) := by decide +kernel
theorem dX12_next_144 : decode cX12_next 144 = .ok (.if_icmp .gt 7, 3) := by decide +kernel
theorem dX12_next_147 : decode cX12_next 147 = .ok (.iconst 1, 1) := by decide +kernel
theorem dX12_next_148 : decode cX12_next 148 = .ok (.goto 4, 3) := by decide +kernel
theorem dX12_next_151 : decode cX12_next 151 = .ok (.iconst 0, 1) := by decide +kernel
theorem dX12_next_152 : decode cX12_next 152 = .ok (.iadd, 1) := by decide +kernel
theorem dX12_next_153 : decode cX12_next 153 = .ok (.istore 5, 2) := by decide +kernel
theorem dX12_next_155 : decode cX12_next 155 = .ok (.iinc 6 1, 3) := by decide +kernel
theorem dX12_next_158 : decode cX12_next 158 = .ok (.goto (-73), 3) := by decide +kernel
theorem dX12_next_161 : decode cX12_next 161 = .ok (.iload 4, 2) := by decide +kernel
theorem dX12_next_163 : decode cX12_next 163 = .ok (.ifCond .ne 7, 3) := by decide +kernel
theorem dX12_next_166 : decode cX12_next 166 = .ok (.iconst 1, 1) := by decide +kernel
theorem dX12_next_167 : decode cX12_next 167 = .ok (.goto 14, 3) := by decide +kernel
theorem dX12_next_170 : decode cX12_next 170 = .ok (.iload 5, 2) := by decide +kernel
theorem dX12_next_172 : decode cX12_next 172 = .ok (.i2l, 1) := by decide +kernel
theorem dX12_next_173 : decode cX12_next 173 = .ok (.iload 4, 2) := by decide +kernel
theorem dX12_next_175 : decode cX12_next 175 = .ok (.i2l, 1) := by decide +kernel
theorem dX12_next_176 : decode cX12_next 176 = .ok (.iload_n 2, 1) := by decide +kernel
theorem dX12_next_177 : decode cX12_next 177 = .ok (.invokestatic 159, 3) := by decide +kernel
theorem dX12_next_180 : decode cX12_next 180 = .ok (.l2i, 1) := by decide +kernel
theorem dX12_next_181 : decode cX12_next 181 = .ok (.ireturn, 1) := by decide +kernel
theorem dX12_even_0 : decode cX12_even 0 = .ok (.ldc 107, 2) := by decide +kernel
theorem dX12_even_2 : decode cX12_even 2 = .ok (.istore_n 1, 1) := by decide +kernel
theorem dX12_even_3 : decode cX12_even 3 = .ok (.iconst 0, 1) := by decide +kernel
theorem dX12_even_4 : decode cX12_even 4 = .ok (.istore_n 2, 1) := by decide +kernel
theorem dX12_even_5 : decode cX12_even 5 = .ok (.iconst 1, 1) := by decide +kernel
theorem dX12_even_6 : decode cX12_even 6 = .ok (.istore_n 3, 1) := by decide +kernel
theorem dX12_even_7 : decode cX12_even 7 = .ok (.iload_n 3, 1) := by decide +kernel
theorem dX12_even_8 : decode cX12_even 8 = .ok (.aload_n 0, 1) := by decide +kernel
theorem dX12_even_9 : decode cX12_even 9 = .ok (.getfield 59, 3) := by decide +kernel
theorem dX12_even_12 : decode cX12_even 12 = .ok (.iconst 0, 1) := by decide +kernel
theorem dX12_even_13 : decode cX12_even 13 = .ok (.iaload, 1) := by decide +kernel
theorem dX12_even_14 : decode cX12_even 14 = .ok (.if_icmp .ge 52, 3) := by decide +kernel
theorem dX12_even_17 : decode cX12_even 17 = .ok (.aload_n 0, 1) := by decide +kernel
theorem dX12_even_18 : decode cX12_even 18 = .ok (.getfield 62, 3) := by decide +kernel
theorem dX12_even_21 : decode cX12_even 21 = .ok (.iload_n 3, 1) := by decide +kernel
theorem dX12_even_22 : decode cX12_even 22 = .ok (.iaload, 1) := by decide +kernel
theorem dX12_even_23 : decode cX12_even 23 = .ok (.aload_n 0, 1) := by decide +kernel
theorem dX12_even_24 : decode cX12_even 24 = .ok (.getfield 62, 3) := by decide +kernel
theorem dX12_even_27 : decode cX12_even 27 = .ok (.iload_n 3, 1) := by decide +kernel
theorem dX12_even_28 : decode cX12_even 28 = .ok (.iconst 1, 1) := by decide +kernel
theorem dX12_even_29 : decode cX12_even 29 = .ok (.isub, 1) := by decide +kernel
theorem dX12_even_30 : decode cX12_even 30 = .ok (.iaload, 1) := by decide +kernel
theorem dX12_even_31 : decode cX12_even 31 = .ok (.isub, 1) := by decide +kernel
theorem dX12_even_32 : decode cX12_even 32 = .ok (.istore 4, 2) := by decide +kernel
theorem dX12_even_34 : decode cX12_even 34 = .ok (.iload 4, 2) := by decide +kernel
theorem dX12_even_36 : decode cX12_even 36 = .ok (.iload_n 1, 1) := by decide +kernel
theorem dX12_even_37 : decode cX12_even 37 = .ok (.if_icmp .ge 8, 3) := by decide +kernel
theorem dX12_even_40 : decode cX12_even 40 = .ok (.iload 4, 2) := by decide +kernel
theorem dX12_even_42 : decode cX12_even 42 = .ok (.goto 4, 3) := by decide +kernel
theorem dX12_even_45 : decode cX12_even 45 = .ok (.iload_n 1, 1) := by decide +kernel
theorem dX12_even_46 : decode cX12_even 46 = .ok (.istore_n 1, 1) := by decide +kernel
theorem dX12_even_47 : decode cX12_even 47 = .ok (.iload 4, 2) := by decide +kernel
theorem dX12_even_49 : decode cX12_even 49 = .ok (.iload_n 2, 1) := by decide +kernel
theorem dX12_even_50 : decode cX12_even 50 = .ok (.if_icmp .le 8, 3) := by decide +kernel
theorem dX12_even_53 : decode cX12_even 53 = .ok (.iload 4, 2) := by decide +kernel
theorem dX12_even_55 : decode cX12_even 55 = .ok (.goto 4, 3) := by decide +kernel
theorem dX12_even_58 : decode cX12_even 58 = .ok (.iload_n 2, 1) := by decide +kernel
theorem dX12_even_59 : decode cX12_even 59 = .ok (.istore_n 2, 1) := by decide +kernel
theorem dX12_even_60 : decode cX12_even 60 = .ok (.iinc 3 1, 3) := by decide +kernel
theorem dX12_even_63 : decode cX12_even 63 = .ok (.goto (-56), 3) := by decide +kernel
theorem dX12_even_66 : decode cX12_even 66 = .ok (.iload_n 2, 1) := by decide +kernel
theorem dX12_even_67 : decode cX12_even 67 = .ok (.ifCond .ne 8, 3) := by decide +kernel
theorem dX12_even_70 : decode cX12_even 70 = .ok (.bipush (-9), 2) := by decide +kernel
theorem dX12_even_72 : decode cX12_even 72 = .ok (.goto 10, 3) := by decide +kernel
theorem dX12_even_75 : decode cX12_even 75 = .ok (.sipush 1000, 3) := by decide +kernel
theorem dX12_even_78 : decode cX12_even 78 = .ok (.iload_n 1, 1) := by decide +kernel
theorem dX12_even_79 : decode cX12_even 79 = .ok (.imul, 1) := by decide +kernel
theorem dX12_even_80 : decode cX12_even 80 = .ok (.iload_n 2, 1) := by decide +kernel
theorem dX12_even_81 : decode cX12_even 81 = .ok (.idiv, 1) := by decide +kernel
theorem dX12_even_82 : decode cX12_even 82 = .ok (.ireturn, 1) := by decide +kernel
theorem dX12_common_0 : decode cX12_common 0 = .ok (.lload_n 0, 1) := by decide +kernel
theorem dX12_common_1 : decode cX12_common 1 = .ok (.lstore 4, 2) := by decide +kernel
theorem dX12_common_3 : decode cX12_common 3 = .ok (.lload_n 2, 1) := by decide +kernel
theorem dX12_common_4 : decode cX12_common 4 = .ok (.lstore 6, 2) := by decide +kernel
theorem dX12_common_6 : decode cX12_common 6 = .ok (.lload 6, 2) := by decide +kernel
theorem dX12_common_8 : decode cX12_common 8 = .ok (.lconst 0, 1) := by decide +kernel
theorem dX12_common_9 : decode cX12_common 9 = .ok (.lcmp, 1) := by decide +kernel
theorem dX12_common_10 : decode cX12_common 10 = .ok (.ifCond .eq 21, 3) := by decide +kernel
theorem dX12_common_13 : decode cX12_common 13 = .ok (.lload 4, 2) := by decide +kernel
theorem dX12_common_15 : decode cX12_common 15 = .ok (.lload 6, 2) := by decide +kernel
theorem dX12_common_17 : decode cX12_common 17 = .ok (.lrem, 1) := by decide +kernel
theorem dX12_common_18 : decode cX12_common 18 = .ok (.lstore 8, 2) := by decide +kernel
theorem dX12_common_20 : decode cX12_common 20 = .ok (.lload 6, 2) := by decide +kernel
theorem dX12_common_22 : decode cX12_common 22 = .ok (.lstore 4, 2) := by decide +kernel
theorem dX12_common_24 : decode cX12_common 24 = .ok (.lload 8, 2) := by decide +kernel
theorem dX12_common_26 : decode cX12_common 26 = .ok (.lstore 6, 2) := by decide +kernel
theorem dX12_common_28 : decode cX12_common 28 = .ok (.goto (-22), 3) := by decide +kernel
theorem dX12_common_31 : decode cX12_common 31 = .ok (.lload 4, 2) := by decide +kernel
theorem dX12_common_33 : decode cX12_common 33 = .ok (.lreturn, 1) := by decide +kernel
set_option maxRecDepth 20000 in
theorem ggX12_inLeast_X12_common : GoodIn wsX12_inLeast wsX12_common := goodIn_r _ [4] (by decide +kernel) (by decide +kernel)
set_option maxRecDepth 20000 in
theorem gX12_inLeast_X12_common : GoodIn wsX12_inLeast (va_wsS RX12 163 yX12_common wsX12_common) := goodIn_app (goodIn_of _ (by decide +kernel)) ggX12_inLeast_X12_common
theorem dX12_inLeast_0 : decode cX12_inLeast 0 = .ok (.lload_n 0, 1) := by decide +kernel
theorem dX12_inLeast_1 : decode cX12_inLeast 1 = .ok (.lload_n 2, 1) := by decide +kernel
theorem dX12_inLeast_2 : decode cX12_inLeast 2 = .ok (.invokestatic 163, 3) := by decide +kernel
theorem dX12_inLeast_5 : decode cX12_inLeast 5 = .ok (.lstore 5, 2) := by decide +kernel
theorem dX12_inLeast_7 : decode cX12_inLeast 7 = .ok (.iload 4, 2) := by decide +kernel
theorem dX12_inLeast_9 : decode cX12_inLeast 9 = .ok (.ifCond .ne 10, 3) := by decide +kernel
theorem dX12_inLeast_12 : decode cX12_inLeast 12 = .ok (.lload_n 0, 1) := by decide +kernel
theorem dX12_inLeast_13 : decode cX12_inLeast 13 = .ok (.lload 5, 2) := by decide +kernel
theorem dX12_inLeast_15 : decode cX12_inLeast 15 = .ok (.ldiv, 1) := by decide +kernel
theorem dX12_inLeast_16 : decode cX12_inLeast 16 = .ok (.goto 7, 3) := by decide +kernel
theorem dX12_inLeast_19 : decode cX12_inLeast 19 = .ok (.lload_n 2, 1) := by decide +kernel
theorem dX12_inLeast_20 : decode cX12_inLeast 20 = .ok (.lload 5, 2) := by decide +kernel
theorem dX12_inLeast_22 : decode cX12_inLeast 22 = .ok (.ldiv, 1) := by decide +kernel
theorem dX12_inLeast_23 : decode cX12_inLeast 23 = .ok (.lreturn, 1) := by decide +kernel
set_option maxRecDepth 20000 in
theorem ggX12_isStory_X12_in : GoodIn wsX12_isStory wsX12_in := goodIn_r _ [4] (by decide +kernel) (by decide +kernel)
set_option maxRecDepth 20000 in
theorem gX12_isStory_X12_in : GoodIn wsX12_isStory (va_wsS RX12 86 yX12_in wsX12_in) := goodIn_app (goodIn_of _ (by decide +kernel)) ggX12_isStory_X12_in
theorem dX12_isStory_0 : decode cX12_isStory 0 = .ok (.iload_n 0, 1) := by decide +kernel
theorem dX12_isStory_1 : decode cX12_isStory 1 = .ok (.iconst 0, 1) := by decide +kernel
theorem dX12_isStory_2 : decode cX12_isStory 2 = .ok (.iconst 4, 1) := by decide +kernel
theorem dX12_isStory_3 : decode cX12_isStory 3 = .ok (.invokestatic 86, 3) := by decide +kernel
theorem dX12_isStory_6 : decode cX12_isStory 6 = .ok (.ireturn, 1) := by decide +kernel
set_option maxRecDepth 20000 in
theorem ggX12_story_X12_isStory : GoodIn wsX12_story wsX12_isStory := goodIn_r _ [6, 7, 8, 5, 9] (by decide +kernel) (by decide +kernel)
set_option maxRecDepth 20000 in
theorem gX12_story_X12_isStory : GoodIn wsX12_story (va_wsS RX12 167 yX12_isStory wsX12_isStory) := goodIn_app (goodIn_of _ (by decide +kernel)) ggX12_story_X12_isStory
set_option maxRecDepth 20000 in
theorem ggX12_story_X12_in : GoodIn wsX12_story wsX12_in := goodIn_r _ [9] (by decide +kernel) (by decide +kernel)
set_option maxRecDepth 20000 in
theorem gX12_story_X12_in : GoodIn wsX12_story (va_wsS RX12 86 yX12_in wsX12_in) := goodIn_app (goodIn_of _ (by decide +kernel)) ggX12_story_X12_in
theorem dX12_story_0 : decode cX12_story 0 = .ok (.iload_n 1, 1) := by decide +kernel
theorem dX12_story_1 : decode cX12_story 1 = .ok (.invokestatic 167, 3) := by decide +kernel
theorem dX12_story_4 : decode cX12_story 4 = .ok (.ifCond .eq 13, 3) := by decide +kernel
theorem dX12_story_7 : decode cX12_story 7 = .ok (.iload_n 2, 1) := by decide +kernel
theorem dX12_story_8 : decode cX12_story 8 = .ok (.iconst 0, 1) := by decide +kernel
theorem dX12_story_9 : decode cX12_story 9 = .ok (.bipush 99, 2) := by decide +kernel
theorem dX12_story_11 : decode cX12_story 11 = .ok (.invokestatic 86, 3) := by decide +kernel
theorem dX12_story_14 : decode cX12_story 14 = .ok (.ifCond .ne 7, 3) := by decide +kernel
theorem dX12_story_17 : decode cX12_story 17 = .ok (.ldc2_w 170, 3) := by decide +kernel
theorem dX12_story_20 : decode cX12_story 20 = .ok (.lreturn, 1) := by decide +kernel
theorem dX12_story_21 : decode cX12_story 21 = .ok (.aload_n 0, 1) := by decide +kernel
theorem dX12_story_22 : decode cX12_story 22 = .ok (.getfield 65, 3) := by decide +kernel
theorem dX12_story_25 : decode cX12_story 25 = .ok (.iload_n 1, 1) := by decide +kernel
theorem dX12_story_26 : decode cX12_story 26 = .ok (.laload, 1) := by decide +kernel
theorem dX12_story_27 : decode cX12_story 27 = .ok (.lstore_n 3, 1) := by decide +kernel
theorem dX12_story_28 : decode cX12_story 28 = .ok (.aload_n 0, 1) := by decide +kernel
theorem dX12_story_29 : decode cX12_story 29 = .ok (.getfield 65, 3) := by decide +kernel
theorem dX12_story_32 : decode cX12_story 32 = .ok (.iload_n 1, 1) := by decide +kernel
theorem dX12_story_33 : decode cX12_story 33 = .ok (.iload_n 2, 1) := by decide +kernel
theorem dX12_story_34 : decode cX12_story 34 = .ok (.i2l, 1) := by decide +kernel
theorem dX12_story_35 : decode cX12_story 35 = .ok (.lastore, 1) := by decide +kernel
theorem dX12_story_36 : decode cX12_story 36 = .ok (.lload_n 3, 1) := by decide +kernel
theorem dX12_story_37 : decode cX12_story 37 = .ok (.lreturn, 1) := by decide +kernel
set_option maxRecDepth 20000 in
theorem ggX12_chance_X12_isStory : GoodIn wsX12_chance wsX12_isStory := goodIn_r _ [5, 6, 7, 4, 8] (by decide +kernel) (by decide +kernel)
set_option maxRecDepth 20000 in
theorem gX12_chance_X12_isStory : GoodIn wsX12_chance (va_wsS RX12 167 yX12_isStory wsX12_isStory) := goodIn_app (goodIn_of _ (by decide +kernel)) ggX12_chance_X12_isStory
set_option maxRecDepth 20000 in
theorem ggX12_chance_X12_in : GoodIn wsX12_chance wsX12_in := goodIn_r _ [8] (by decide +kernel) (by decide +kernel)
set_option maxRecDepth 20000 in
theorem gX12_chance_X12_in : GoodIn wsX12_chance (va_wsS RX12 86 yX12_in wsX12_in) := goodIn_app (goodIn_of _ (by decide +kernel)) ggX12_chance_X12_in
theorem dX12_chance_0 : decode cX12_chance 0 = .ok (.iload_n 1, 1) := by decide +kernel
theorem dX12_chance_1 : decode cX12_chance 1 = .ok (.invokestatic 167, 3) := by decide +kernel
theorem dX12_chance_4 : decode cX12_chance 4 = .ok (.ifCond .eq 22, 3) := by decide +kernel
theorem dX12_chance_7 : decode cX12_chance 7 = .ok (.iload_n 2, 1) := by decide +kernel
theorem dX12_chance_8 : decode cX12_chance 8 = .ok (.iconst 0, 1) := by decide +kernel
theorem dX12_chance_9 : decode cX12_chance 9 = .ok (.iconst 5, 1) := by decide +kernel
theorem dX12_chance_10 : decode cX12_chance 10 = .ok (.invokestatic 86, 3) := by decide +kernel
theorem dX12_chance_13 : decode cX12_chance 13 = .ok (.ifCond .eq 13, 3) := by decide +kernel
theorem dX12_chance_16 : decode cX12_chance 16 = .ok (.iload_n 3, 1) := by decide +kernel
theorem dX12_chance_17 : decode cX12_chance 17 = .ok (.iconst 0, 1) := by decide +kernel
theorem dX12_chance_18 : decode cX12_chance 18 = .ok (.bipush 10, 2) := by decide +kernel
theorem dX12_chance_20 : decode cX12_chance 20 = .ok (.invokestatic 86, 3) := by decide +kernel
theorem dX12_chance_23 : decode cX12_chance 23 = .ok (.ifCond .ne 5, 3) := by decide +kernel
theorem dX12_chance_26 : decode cX12_chance 26 = .ok (.iconst (-1), 1) := by decide +kernel
theorem dX12_chance_27 : decode cX12_chance 27 = .ok (.ireturn, 1) := by decide +kernel
theorem dX12_chance_28 : decode cX12_chance 28 = .ok (.aload_n 0, 1) := by decide +kernel
theorem dX12_chance_29 : decode cX12_chance 29 = .ok (.getfield 69, 3) := by decide +kernel
theorem dX12_chance_32 : decode cX12_chance 32 = .ok (.bipush 6, 2) := by decide +kernel
theorem dX12_chance_34 : decode cX12_chance 34 = .ok (.iload_n 1, 1) := by decide +kernel
theorem dX12_chance_35 : decode cX12_chance 35 = .ok (.imul, 1) := by decide +kernel
theorem dX12_chance_36 : decode cX12_chance 36 = .ok (.iload_n 2, 1) := by decide +kernel
theorem dX12_chance_37 : decode cX12_chance 37 = .ok (.iadd, 1) := by decide +kernel
theorem dX12_chance_38 : decode cX12_chance 38 = .ok (.iaload, 1) := by decide +kernel
theorem dX12_chance_39 : decode cX12_chance 39 = .ok (.istore 4, 2) := by decide +kernel
theorem dX12_chance_41 : decode cX12_chance 41 = .ok (.aload_n 0, 1) := by decide +kernel
theorem dX12_chance_42 : decode cX12_chance 42 = .ok (.getfield 69, 3) := by decide +kernel
theorem dX12_chance_45 : decode cX12_chance 45 = .ok (.bipush 6, 2) := by decide +kernel
theorem dX12_chance_47 : decode cX12_chance 47 = .ok (.iload_n 1, 1) := by decide +kernel
theorem dX12_chance_48 : decode cX12_chance 48 = .ok (.imul, 1) := by decide +kernel
theorem dX12_chance_49 : decode cX12_chance 49 = .ok (.iload_n 2, 1) := by decide +kernel
theorem dX12_chance_50 : decode cX12_chance 50 = .ok (.iadd, 1) := by decide +kernel
theorem dX12_chance_51 : decode cX12_chance 51 = .ok (.iload_n 3, 1) := by decide +kernel
theorem dX12_chance_52 : decode cX12_chance 52 = .ok (.iastore, 1) := by decide +kernel
theorem dX12_chance_53 : decode cX12_chance 53 = .ok (.iload 4, 2) := by decide +kernel
theorem dX12_chance_55 : decode cX12_chance 55 = .ok (.ireturn, 1) := by decide +kernel
set_option maxRecDepth 20000 in
theorem ggX12_dug_X12_in : GoodIn wsX12_dug wsX12_in := goodIn_r _ [9] (by decide +kernel) (by decide +kernel)
set_option maxRecDepth 20000 in
theorem gX12_dug_X12_in : GoodIn wsX12_dug (va_wsS RX12 86 yX12_in wsX12_in) := goodIn_app (goodIn_of _ (by decide +kernel)) ggX12_dug_X12_in
set_option maxRecDepth 20000 in
theorem ggX12_dug_X12_common : GoodIn wsX12_dug wsX12_common := goodIn_r _ [12] (by decide +kernel) (by decide +kernel)
set_option maxRecDepth 20000 in
theorem gX12_dug_X12_common : GoodIn wsX12_dug (va_wsS RX12 163 yX12_common wsX12_common) := goodIn_app (goodIn_of _ (by decide +kernel)) ggX12_dug_X12_common
set_option maxRecDepth 20000 in
theorem ggX12_dug_X12_bitsIn : GoodIn wsX12_dug wsX12_bitsIn := goodIn_r _ [15] (by decide +kernel) (by decide +kernel)
set_option maxRecDepth 20000 in
theorem gX12_dug_X12_bitsIn : GoodIn wsX12_dug (va_wsS RX12 156 yX12_bitsIn wsX12_bitsIn) := goodIn_app (goodIn_of _ (by decide +kernel)) ggX12_dug_X12_bitsIn
theorem dX12_dug_0 : decode cX12_dug 0 = .ok (.iload_n 1, 1) := by decide +kernel
theorem dX12_dug_1 : decode cX12_dug 1 = .ok (.iconst 0, 1) := by decide +kernel
theorem dX12_dug_2 : decode cX12_dug 2 = .ok (.iconst 5, 1) := by decide +kernel
theorem dX12_dug_3 : decode cX12_dug 3 = .ok (.invokestatic 86, 3) := by decide +kernel
theorem dX12_dug_6 : decode cX12_dug 6 = .ok (.ifCond .eq 12, 3) := by decide +kernel
theorem dX12_dug_9 : decode cX12_dug 9 = .ok (.iload_n 2, 1) := by decide +kernel
theorem dX12_dug_10 : decode cX12_dug 10 = .ok (.iconst 0, 1) := by decide +kernel
theorem dX12_dug_11 : decode cX12_dug 11 = .ok (.iconst 1, 1) := by decide +kernel
theorem dX12_dug_12 : decode cX12_dug 12 = .ok (.invokestatic 86, 3) := by decide +kernel
theorem dX12_dug_15 : decode cX12_dug 15 = .ok (.ifCond .ne 5, 3) := by decide +kernel
theorem dX12_dug_18 : decode cX12_dug 18 = .ok (.iconst (-1), 1) := by decide +kernel
theorem dX12_dug_19 : decode cX12_dug 19 = .ok (.ireturn, 1) := by decide +kernel
theorem dX12_dug_20 : decode cX12_dug 20 = .ok (.aload_n 0, 1) := by decide +kernel
theorem dX12_dug_21 : decode cX12_dug 21 = .ok (.getfield 72, 3) := by decide +kernel
theorem dX12_dug_24 : decode cX12_dug 24 = .ok (.iconst 0, 1) := by decide +kernel
theorem dX12_dug_25 : decode cX12_dug 25 = .ok (.iaload, 1) := by decide +kernel
theorem dX12_dug_26 : decode cX12_dug 26 = .ok (.iload_n 1, 1) := by decide +kernel
theorem dX12_dug_27 : decode cX12_dug 27 = .ok (.ishr, 1) := by decide +kernel
theorem dX12_dug_28 : decode cX12_dug 28 = .ok (.iconst 1, 1) := by decide +kernel
theorem dX12_dug_29 : decode cX12_dug 29 = .ok (.iand, 1) := by decide +kernel
theorem dX12_dug_30 : decode cX12_dug 30 = .ok (.iconst 1, 1) := by decide +kernel
theorem dX12_dug_31 : decode cX12_dug 31 = .ok (.if_icmp .ne 6, 3) := by decide +kernel
theorem dX12_dug_34 : decode cX12_dug 34 = .ok (.bipush (-2), 2) := by decide +kernel
theorem dX12_dug_36 : decode cX12_dug 36 = .ok (.ireturn, 1) := by decide +kernel
theorem dX12_dug_37 : decode cX12_dug 37 = .ok (.lconst 0, 1) := by decide +kernel
theorem dX12_dug_38 : decode cX12_dug 38 = .ok (.lstore_n 3, 1) := by decide +kernel
theorem dX12_dug_39 : decode cX12_dug 39 = .ok (.iconst 0, 1) := by decide +kernel
theorem dX12_dug_40 : decode cX12_dug 40 = .ok (.istore 5, 2) := by decide +kernel
theorem dX12_dug_42 : decode cX12_dug 42 = .ok (.iload 5, 2) := by decide +kernel
theorem dX12_dug_44 : decode cX12_dug 44 = .ok (.iconst 5, 1) := by decide +kernel
theorem dX12_dug_45 : decode cX12_dug 45 = .ok (.if_icmp .ge 66, 3) := by decide +kernel
theorem dX12_dug_48 : decode cX12_dug 48 = .ok (.aload_n 0, 1) := by decide +kernel
theorem dX12_dug_49 : decode cX12_dug 49 = .ok (.getfield 69, 3) := by decide +kernel
theorem dX12_dug_52 : decode cX12_dug 52 = .ok (.bipush 6, 2) := by decide +kernel
theorem dX12_dug_54 : decode cX12_dug 54 = .ok (.iload 5, 2) := by decide +kernel
theorem dX12_dug_56 : decode cX12_dug 56 = .ok (.imul, 1) := by decide +kernel
theorem dX12_dug_57 : decode cX12_dug 57 = .ok (.iload_n 1, 1) := by decide +kernel
theorem dX12_dug_58 : decode cX12_dug 58 = .ok (.iadd, 1) := by decide +kernel
theorem dX12_dug_59 : decode cX12_dug 59 = .ok (.iaload, 1) := by decide +kernel
theorem dX12_dug_60 : decode cX12_dug 60 = .ok (.istore 6, 2) := by decide +kernel
theorem dX12_dug_62 : decode cX12_dug 62 = .ok (.aload_n 0, 1) := by decide +kernel
theorem dX12_dug_63 : decode cX12_dug 63 = .ok (.getfield 75, 3) := by decide +kernel
theorem dX12_dug_66 : decode cX12_dug 66 = .ok (.iload 5, 2) := by decide +kernel
theorem dX12_dug_68 : decode cX12_dug 68 = .ok (.aload_n 0, 1) := by decide +kernel
theorem dX12_dug_69 : decode cX12_dug 69 = .ok (.getfield 65, 3) := by decide +kernel
theorem dX12_dug_72 : decode cX12_dug 72 = .ok (.iload 5, 2) := by decide +kernel
theorem dX12_dug_74 : decode cX12_dug 74 = .ok (.laload, 1) := by decide +kernel
theorem dX12_dug_75 : decode cX12_dug 75 = .ok (.iload_n 2, 1) := by decide +kernel
theorem dX12_dug_76 : decode cX12_dug 76 = .ok (.iconst 1, 1) := by decide +kernel
theorem dX12_dug_77 : decode cX12_dug 77 = .ok (.if_icmp .ne 8, 3) := by decide +kernel
theorem dX12_dug_80 : decode cX12_dug 80 = .ok (.iload 6, 2) := by decide +kernel
theorem dX12_dug_82 : decode cX12_dug 82 = .ok (.goto 8, 3) := by decide +kernel
theorem dX12_dug_85 : decode cX12_dug 85 = .ok (.bipush 10, 2) := by decide +kernel
theorem dX12_dug_87 : decode cX12_dug 87 = .ok (.iload 6, 2) := by decide +kernel
theorem dX12_dug_89 : decode cX12_dug 89 = .ok (.isub, 1) := by decide +kernel
theorem dX12_dug_90 : decode cX12_dug 90 = .ok (.i2l, 1) := by decide +kernel
theorem dX12_dug_91 : decode cX12_dug 91 = .ok (.lmul, 1) := by decide +kernel
theorem dX12_dug_92 : decode cX12_dug 92 = .ok (.lastore, 1) := by decide +kernel
theorem dX12_dug_93 : decode cX12_dug 93 = .ok (.aload_n 0, 1) := by decide +kernel
theorem dX12_dug_94 : decode cX12_dug 94 = .ok (.getfield 75, 3) := by decide +kernel
theorem dX12_dug_97 : decode cX12_dug 97 = .ok (.iload 5, 2) := by decide +kernel
theorem dX12_dug_99 : decode cX12_dug 99 = .ok (.laload, 1) := by decide +kernel
theorem dX12_dug_100 : decode cX12_dug 100 = .ok (.lload_n 3, 1) := by decide +kernel
theorem dX12_dug_101 : decode cX12_dug 101 = .ok (.invokestatic 163, 3) := by decide +kernel
theorem dX12_dug_104 : decode cX12_dug 104 = .ok (.lstore_n 3, 1) := by decide +kernel
theorem dX12_dug_105 : decode cX12_dug 105 = .ok (.iinc 5 1, 3) := by decide +kernel
theorem dX12_dug_108 : decode cX12_dug 108 = .ok (.goto (-66), 3) := by decide +kernel
theorem dX12_dug_111 : decode cX12_dug 111 = .ok (.lload_n 3, 1) := by decide +kernel
theorem dX12_dug_112 : decode cX12_dug 112 = .ok (.lconst 0, 1) := by decide +kernel
theorem dX12_dug_113 : decode cX12_dug 113 = .ok (.lcmp, 1) := by decide +kernel
theorem dX12_dug_114 : decode cX12_dug 114 = .ok (.ifCond .ne 6, 3) := by decide +kernel
theorem dX12_dug_117 : decode cX12_dug 117 = .ok (.bipush (-2), 2) := by decide +kernel
theorem dX12_dug_119 : decode cX12_dug 119 = .ok (.ireturn, 1) := by decide +kernel
theorem dX12_dug_120 : decode cX12_dug 120 = .ok (.iconst 0, 1) := by decide +kernel
theorem dX12_dug_121 : decode cX12_dug 121 = .ok (.istore 5, 2) := by decide +kernel
theorem dX12_dug_123 : decode cX12_dug 123 = .ok (.iload 5, 2) := by decide +kernel
theorem dX12_dug_125 : decode cX12_dug 125 = .ok (.iconst 5, 1) := by decide +kernel
theorem dX12_dug_126 : decode cX12_dug 126 = .ok (.if_icmp .ge 28, 3) := by decide +kernel
theorem dX12_dug_129 : decode cX12_dug 129 = .ok (.aload_n 0, 1) := by decide +kernel
theorem dX12_dug_130 : decode cX12_dug 130 = .ok (.getfield 75, 3) := by decide +kernel
theorem dX12_dug_133 : decode cX12_dug 133 = .ok (.iload 5, 2) := by decide +kernel
theorem dX12_dug_135 : decode cX12_dug 135 = .ok (.laload, 1) := by decide +kernel
theorem dX12_dug_136 : decode cX12_dug 136 = .ok (.lload_n 3, 1) := by decide +kernel
theorem dX12_dug_137 : decode cX12_dug 137 = .ok (.ldiv, 1) := by decide +kernel
theorem dX12_dug_138 : decode cX12_dug 138 = .ok (.ldc2_w 172, 3) := by decide +kernel
theorem dX12_dug_141 : decode cX12_dug 141 = .ok (.lcmp, 1) := by decide +kernel
theorem dX12_dug_142 : decode cX12_dug 142 = .ok (.ifCond .le 6, 3) := by decide +kernel
theorem dX12_dug_145 : decode cX12_dug 145 = .ok (.bipush (-3), 2) := by decide +kernel
theorem dX12_dug_147 : decode cX12_dug 147 = .ok (.ireturn, 1) := by decide +kernel
theorem dX12_dug_148 : decode cX12_dug 148 = .ok (.iinc 5 1, 3) := by decide +kernel
theorem dX12_dug_151 : decode cX12_dug 151 = .ok (.goto (-28), 3) := by decide +kernel
theorem dX12_dug_154 : decode cX12_dug 154 = .ok (.iconst 0, 1) := by decide +kernel
theorem dX12_dug_155 : decode cX12_dug 155 = .ok (.istore 5, 2) := by decide +kernel
theorem dX12_dug_157 : decode cX12_dug 157 = .ok (.iload 5, 2) := by decide +kernel
theorem dX12_dug_159 : decode cX12_dug 159 = .ok (.iconst 5, 1) := by decide +kernel
theorem dX12_dug_160 : decode cX12_dug 160 = .ok (.if_icmp .ge 25, 3) := by decide +kernel
theorem dX12_dug_163 : decode cX12_dug 163 = .ok (.aload_n 0, 1) := by decide +kernel
theorem dX12_dug_164 : decode cX12_dug 164 = .ok (.getfield 65, 3) := by decide +kernel
theorem dX12_dug_167 : decode cX12_dug 167 = .ok (.iload 5, 2) := by decide +kernel
theorem dX12_dug_169 : decode cX12_dug 169 = .ok (.aload_n 0, 1) := by decide +kernel
theorem dX12_dug_170 : decode cX12_dug 170 = .ok (.getfield 75, 3) := by decide +kernel
theorem dX12_dug_173 : decode cX12_dug 173 = .ok (.iload 5, 2) := by decide +kernel
theorem dX12_dug_175 : decode cX12_dug 175 = .ok (.laload, 1) := by decide +kernel
theorem dX12_dug_176 : decode cX12_dug 176 = .ok (.lload_n 3, 1) := by decide +kernel
theorem dX12_dug_177 : decode cX12_dug 177 = .ok (.ldiv, 1) := by decide +kernel
theorem dX12_dug_178 : decode cX12_dug 178 = .ok (.lastore, 1) := by decide +kernel
theorem dX12_dug_179 : decode cX12_dug 179 = .ok (.iinc 5 1, 3) := by decide +kernel
theorem dX12_dug_182 : decode cX12_dug 182 = .ok (.goto (-25), 3) := by decide +kernel
theorem dX12_dug_185 : decode cX12_dug 185 = .ok (.aload_n 0, 1) := by decide +kernel
theorem dX12_dug_186 : decode cX12_dug 186 = .ok (.getfield 72, 3) := by decide +kernel
theorem dX12_dug_189 : decode cX12_dug 189 = .ok (.iconst 0, 1) := by decide +kernel
theorem dX12_dug_190 : decode cX12_dug 190 = .ok (.dup2, 1) := by decide +kernel
theorem dX12_dug_191 : decode cX12_dug 191 = .ok (.iaload, 1) := by decide +kernel
theorem dX12_dug_192 : decode cX12_dug 192 = .ok (.iconst 1, 1) := by decide +kernel
theorem dX12_dug_193 : decode cX12_dug 193 = .ok (.iload_n 1, 1) := by decide +kernel
theorem dX12_dug_194 : decode cX12_dug 194 = .ok (.ishl, 1) := by decide +kernel
theorem dX12_dug_195 : decode cX12_dug 195 = .ok (.ior, 1) := by decide +kernel
theorem dX12_dug_196 : decode cX12_dug 196 = .ok (.iastore, 1) := by decide +kernel
theorem dX12_dug_197 : decode cX12_dug 197 = .ok (.aload_n 0, 1) := by decide +kernel
theorem dX12_dug_198 : decode cX12_dug 198 = .ok (.getfield 72, 3) := by decide +kernel
theorem dX12_dug_201 : decode cX12_dug 201 = .ok (.iconst 0, 1) := by decide +kernel
theorem dX12_dug_202 : decode cX12_dug 202 = .ok (.iaload, 1) := by decide +kernel
theorem dX12_dug_203 : decode cX12_dug 203 = .ok (.invokestatic 156, 3) := by decide +kernel
theorem dX12_dug_206 : decode cX12_dug 206 = .ok (.ireturn, 1) := by decide +kernel
set_option maxRecDepth 20000 in
theorem ggX12_believed_X12_isStory : GoodIn wsX12_believed wsX12_isStory := goodIn_r _ [6, 7, 8, 5, 9] (by decide +kernel) (by decide +kernel)
set_option maxRecDepth 20000 in
theorem gX12_believed_X12_isStory : GoodIn wsX12_believed (va_wsS RX12 167 yX12_isStory wsX12_isStory) := goodIn_app (goodIn_of _ (by decide +kernel)) ggX12_believed_X12_isStory
set_option maxRecDepth 20000 in
theorem ggX12_believed_X12_in : GoodIn wsX12_believed wsX12_in := goodIn_r _ [9] (by decide +kernel) (by decide +kernel)
set_option maxRecDepth 20000 in
theorem gX12_believed_X12_in : GoodIn wsX12_believed (va_wsS RX12 86 yX12_in wsX12_in) := goodIn_app (goodIn_of _ (by decide +kernel)) ggX12_believed_X12_in
set_option maxRecDepth 20000 in
theorem ggX12_believed_X12_inLeast : GoodIn wsX12_believed wsX12_inLeast := goodIn_r _ [12, 13, 14, 5, 15] (by decide +kernel) (by decide +kernel)
set_option maxRecDepth 20000 in
theorem gX12_believed_X12_inLeast : GoodIn wsX12_believed (va_wsS RX12 159 yX12_inLeast wsX12_inLeast) := goodIn_app (goodIn_of _ (by decide +kernel)) ggX12_believed_X12_inLeast
theorem dX12_believed_0 : decode cX12_believed 0 = .ok (.iload_n 1, 1) := by decide +kernel
theorem dX12_believed_1 : decode cX12_believed 1 = .ok (.invokestatic 167, 3) := by decide +kernel
theorem dX12_believed_4 : decode cX12_believed 4 = .ok (.ifCond .eq 12, 3) := by decide +kernel
theorem dX12_believed_7 : decode cX12_believed 7 = .ok (.iload_n 2, 1) := by decide +kernel
theorem dX12_believed_8 : decode cX12_believed 8 = .ok (.iconst 0, 1) := by decide +kernel
theorem dX12_believed_9 : decode cX12_believed 9 = .ok (.iconst 1, 1) := by decide +kernel
theorem dX12_believed_10 : decode cX12_believed 10 = .ok (.invokestatic 86, 3) := by decide +kernel
theorem dX12_believed_13 : decode cX12_believed 13 = .ok (.ifCond .ne 7, 3) := by decide +kernel
theorem dX12_believed_16 : decode cX12_believed 16 = .ok (.ldc2_w 170, 3) := by decide +kernel
theorem dX12_believed_19 : decode cX12_believed 19 = .ok (.lreturn, 1) := by decide +kernel
theorem dX12_believed_20 : decode cX12_believed 20 = .ok (.lconst 0, 1) := by decide +kernel
theorem dX12_believed_21 : decode cX12_believed 21 = .ok (.lstore_n 3, 1) := by decide +kernel
theorem dX12_believed_22 : decode cX12_believed 22 = .ok (.iconst 0, 1) := by decide +kernel
theorem dX12_believed_23 : decode cX12_believed 23 = .ok (.istore 5, 2) := by decide +kernel
theorem dX12_believed_25 : decode cX12_believed 25 = .ok (.iload 5, 2) := by decide +kernel
theorem dX12_believed_27 : decode cX12_believed 27 = .ok (.iconst 5, 1) := by decide +kernel
theorem dX12_believed_28 : decode cX12_believed 28 = .ok (.if_icmp .ge 19, 3) := by decide +kernel
theorem dX12_believed_31 : decode cX12_believed 31 = .ok (.lload_n 3, 1) := by decide +kernel
theorem dX12_believed_32 : decode cX12_believed 32 = .ok (.aload_n 0, 1) := by decide +kernel
theorem dX12_believed_33 : decode cX12_believed 33 = .ok (.getfield 65, 3) := by decide +kernel
theorem dX12_believed_36 : decode cX12_believed 36 = .ok (.iload 5, 2) := by decide +kernel
theorem dX12_believed_38 : decode cX12_believed 38 = .ok (.laload, 1) := by decide +kernel
theorem dX12_believed_39 : decode cX12_believed 39 = .ok (.ladd, 1) := by decide +kernel
theorem dX12_believed_40 : decode cX12_believed 40 = .ok (.lstore_n 3, 1) := by decide +kernel
theorem dX12_believed_41 : decode cX12_believed 41 = .ok (.iinc 5 1, 3) := by decide +kernel
theorem dX12_believed_44 : decode cX12_believed 44 = .ok (.goto (-19), 3) := by decide +kernel
theorem dX12_believed_47 : decode cX12_believed 47 = .ok (.lload_n 3, 1) := by decide +kernel
theorem dX12_believed_48 : decode cX12_believed 48 = .ok (.lconst 0, 1) := by decide +kernel
theorem dX12_believed_49 : decode cX12_believed 49 = .ok (.lcmp, 1) := by decide +kernel
theorem dX12_believed_50 : decode cX12_believed 50 = .ok (.ifCond .ne 8, 3) := by decide +kernel
theorem dX12_believed_53 : decode cX12_believed 53 = .ok (.iload_n 2, 1) := by decide +kernel
theorem dX12_believed_54 : decode cX12_believed 54 = .ok (.i2l, 1) := by decide +kernel
theorem dX12_believed_55 : decode cX12_believed 55 = .ok (.goto 14, 3) := by decide +kernel
theorem dX12_believed_58 : decode cX12_believed 58 = .ok (.aload_n 0, 1) := by decide +kernel
theorem dX12_believed_59 : decode cX12_believed 59 = .ok (.getfield 65, 3) := by decide +kernel
theorem dX12_believed_62 : decode cX12_believed 62 = .ok (.iload_n 1, 1) := by decide +kernel
theorem dX12_believed_63 : decode cX12_believed 63 = .ok (.laload, 1) := by decide +kernel
theorem dX12_believed_64 : decode cX12_believed 64 = .ok (.lload_n 3, 1) := by decide +kernel
theorem dX12_believed_65 : decode cX12_believed 65 = .ok (.iload_n 2, 1) := by decide +kernel
theorem dX12_believed_66 : decode cX12_believed 66 = .ok (.invokestatic 159, 3) := by decide +kernel
theorem dX12_believed_69 : decode cX12_believed 69 = .ok (.lreturn, 1) := by decide +kernel
theorem dX12_dig_0 : decode cX12_dig 0 = .ok (.bipush (-9), 2) := by decide +kernel
theorem dX12_dig_2 : decode cX12_dig 2 = .ok (.istore_n 1, 1) := by decide +kernel
theorem dX12_dig_3 : decode cX12_dig 3 = .ok (.ldc2_w 170, 3) := by decide +kernel
theorem dX12_dig_6 : decode cX12_dig 6 = .ok (.lstore_n 2, 1) := by decide +kernel
theorem dX12_dig_7 : decode cX12_dig 7 = .ok (.iconst 0, 1) := by decide +kernel
theorem dX12_dig_8 : decode cX12_dig 8 = .ok (.istore 4, 2) := by decide +kernel
theorem dX12_dig_10 : decode cX12_dig 10 = .ok (.iload 4, 2) := by decide +kernel
theorem dX12_dig_12 : decode cX12_dig 12 = .ok (.bipush 6, 2) := by decide +kernel
theorem dX12_dig_14 : decode cX12_dig 14 = .ok (.if_icmp .ge 179, 3) := by decide +kernel
theorem dX12_dig_17 : decode cX12_dig 17 = .ok (.lconst 0, 1) := by decide +kernel
theorem dX12_dig_18 : decode cX12_dig 18 = .ok (.lstore 5, 2) := by decide +kernel
theorem dX12_dig_20 : decode cX12_dig 20 = .ok (.lconst 0, 1) := by decide +kernel
theorem dX12_dig_21 : decode cX12_dig 21 = .ok (.lstore 7, 2) := by decide +kernel
theorem dX12_dig_23 : decode cX12_dig 23 = .ok (.iconst 0, 1) := by decide +kernel
theorem dX12_dig_24 : decode cX12_dig 24 = .ok (.istore 9, 2) := by decide +kernel
theorem dX12_dig_26 : decode cX12_dig 26 = .ok (.iload 9, 2) := by decide +kernel
theorem dX12_dig_28 : decode cX12_dig 28 = .ok (.iconst 5, 1) := by decide +kernel
theorem dX12_dig_29 : decode cX12_dig 29 = .ok (.if_icmp .ge 100, 3) := by decide +kernel
theorem dX12_dig_32 : decode cX12_dig 32 = .ok (.aload_n 0, 1) := by decide +kernel
theorem dX12_dig_33 : decode cX12_dig 33 = .ok (.getfield 69, 3) := by decide +kernel
theorem dX12_dig_36 : decode cX12_dig 36 = .ok (.bipush 6, 2) := by decide +kernel
theorem dX12_dig_38 : decode cX12_dig 38 = .ok (.iload 9, 2) := by decide +kernel
theorem dX12_dig_40 : decode cX12_dig 40 = .ok (.imul, 1) := by decide +kernel
theorem dX12_dig_41 : decode cX12_dig 41 = .ok (.iload 4, 2) := by decide +kernel
theorem dX12_dig_43 : decode cX12_dig 43 = .ok (.iadd, 1) := by decide +kernel
theorem dX12_dig_44 : decode cX12_dig 44 = .ok (.iaload, 1) := by decide +kernel
theorem dX12_dig_45 : decode cX12_dig 45 = .ok (.istore 10, 2) := by decide +kernel
theorem dX12_dig_47 : decode cX12_dig 47 = .ok (.aload_n 0, 1) := by decide +kernel
theorem dX12_dig_48 : decode cX12_dig 48 = .ok (.getfield 65, 3) := by decide +kernel
theorem dX12_dig_51 : decode cX12_dig 51 = .ok (.iload 9, 2) := by decide +kernel
theorem dX12_dig_53 : decode cX12_dig 53 = .ok (.laload, 1) := by decide +kernel
theorem dX12_dig_54 : decode cX12_dig 54 = .ok (.iload 10, 2) := by decide +kernel
theorem dX12_dig_56 : decode cX12_dig 56 = .ok (.i2l, 1) := by decide +kernel
theorem dX12_dig_57 : decode cX12_dig 57 = .ok (.lmul, 1) := by decide +kernel
theorem dX12_dig_58 : decode cX12_dig 58 = .ok (.lload 5, 2) := by decide +kernel
theorem dX12_dig_60 : decode cX12_dig 60 = .ok (.lcmp, 1) := by decide +kernel
theorem dX12_dig_61 : decode cX12_dig 61 = .ok (.ifCond .le 17, 3) := by decide +kernel
theorem dX12_dig_64 : decode cX12_dig 64 = .ok (.aload_n 0, 1) := by decide +kernel
theorem dX12_dig_65 : decode cX12_dig 65 = .ok (.getfield 65, 3) := by decide +kernel
theorem dX12_dig_68 : decode cX12_dig 68 = .ok (.iload 9, 2) := by decide +kernel
theorem dX12_dig_70 : decode cX12_dig 70 = .ok (.laload, 1) := by decide +kernel
theorem dX12_dig_71 : decode cX12_dig 71 = .ok (.iload 10, 2) := by decide +kernel
theorem dX12_dig_73 : decode cX12_dig 73 = .ok (.i2l, 1) := by decide +kernel
theorem dX12_dig_74 : decode cX12_dig 74 = .ok (.lmul, 1) := by decide +kernel
theorem dX12_dig_75 : decode cX12_dig 75 = .ok (.goto 5, 3) := by decide +kernel
theorem dX12_dig_78 : decode cX12_dig 78 = .ok (.lload 5, 2) := by decide +kernel
theorem dX12_dig_80 : decode cX12_dig 80 = .ok (.lstore 5, 2) := by decide +kernel
theorem dX12_dig_82 : decode cX12_dig 82 = .ok (.aload_n 0, 1) := by decide +kernel
theorem dX12_dig_83 : decode cX12_dig 83 = .ok (.getfield 65, 3) := by decide +kernel
theorem dX12_dig_86 : decode cX12_dig 86 = .ok (.iload 9, 2) := by decide +kernel
theorem dX12_dig_88 : decode cX12_dig 88 = .ok (.laload, 1) := by decide +kernel
theorem dX12_dig_89 : decode cX12_dig 89 = .ok (.bipush 10, 2) := by decide +kernel
theorem dX12_dig_91 : decode cX12_dig 91 = .ok (.iload 10, 2) := by decide +kernel
theorem dX12_dig_93 : decode cX12_dig 93 = .ok (.isub, 1) := by decide +kernel
theorem dX12_dig_94 : decode cX12_dig 94 = .ok (.i2l, 1) := by decide +kernel
theorem dX12_dig_95 : decode cX12_dig 95 = .ok (.lmul, 1) := by decide +kernel
theorem dX12_dig_96 : decode cX12_dig 96 = .ok (.lload 7, 2) := by decide +kernel
theorem dX12_dig_98 : decode cX12_dig 98 = .ok (.lcmp, 1) := by decide +kernel
theorem dX12_dig_99 : decode cX12_dig 99 = .ok (.ifCond .le 20, 3) := by decide +kernel
theorem dX12_dig_102 : decode cX12_dig 102 = .ok (.aload_n 0, 1) := by decide +kernel
theorem dX12_dig_103 : decode cX12_dig 103 = .ok (.getfield 65, 3) := by decide +kernel
theorem dX12_dig_106 : decode cX12_dig 106 = .ok (.iload 9, 2) := by decide +kernel
