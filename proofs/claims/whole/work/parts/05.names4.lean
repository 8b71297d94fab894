theorem dX10_growWood_15 : decode cX10_growWood 15 = .ok (.iadd, 1) := by decide +kernel
theorem dX10_growWood_16 : decode cX10_growWood 16 = .ok (.iastore, 1) := by decide +kernel
theorem dX10_growWood_17 : decode cX10_growWood 17 = .ok (.iload_n 2, 1) := by decide +kernel
theorem dX10_growWood_18 : decode cX10_growWood 18 = .ok (.iastore, 1) := by decide +kernel
theorem dX10_growWood_19 : decode cX10_growWood 19 = .ok (.aload_n 0, 1) := by decide +kernel
theorem dX10_growWood_20 : decode cX10_growWood 20 = .ok (.getfield 20, 3) := by decide +kernel
theorem dX10_growWood_23 : decode cX10_growWood 23 = .ok (.iload_n 1, 1) := by decide +kernel
theorem dX10_growWood_24 : decode cX10_growWood 24 = .ok (.iaload, 1) := by decide +kernel
theorem dX10_growWood_25 : decode cX10_growWood 25 = .ok (.ireturn, 1) := by decide +kernel
theorem dX10_startWood_0 : decode cX10_startWood 0 = .ok (.aload_n 0, 1) := by decide +kernel
theorem dX10_startWood_1 : decode cX10_startWood 1 = .ok (.getfield 20, 3) := by decide +kernel
theorem dX10_startWood_4 : decode cX10_startWood 4 = .ok (.iload_n 1, 1) := by decide +kernel
theorem dX10_startWood_5 : decode cX10_startWood 5 = .ok (.iaload, 1) := by decide +kernel
theorem dX10_startWood_6 : decode cX10_startWood 6 = .ok (.istore_n 3, 1) := by decide +kernel
theorem dX10_startWood_7 : decode cX10_startWood 7 = .ok (.aload_n 0, 1) := by decide +kernel
theorem dX10_startWood_8 : decode cX10_startWood 8 = .ok (.getfield 20, 3) := by decide +kernel
theorem dX10_startWood_11 : decode cX10_startWood 11 = .ok (.iload_n 1, 1) := by decide +kernel
theorem dX10_startWood_12 : decode cX10_startWood 12 = .ok (.iconst 0, 1) := by decide +kernel
theorem dX10_startWood_13 : decode cX10_startWood 13 = .ok (.iastore, 1) := by decide +kernel
theorem dX10_startWood_14 : decode cX10_startWood 14 = .ok (.aload_n 0, 1) := by decide +kernel
theorem dX10_startWood_15 : decode cX10_startWood 15 = .ok (.getfield 23, 3) := by decide +kernel
theorem dX10_startWood_18 : decode cX10_startWood 18 = .ok (.iload_n 1, 1) := by decide +kernel
theorem dX10_startWood_19 : decode cX10_startWood 19 = .ok (.iload_n 2, 1) := by decide +kernel
theorem dX10_startWood_20 : decode cX10_startWood 20 = .ok (.iastore, 1) := by decide +kernel
theorem dX10_startWood_21 : decode cX10_startWood 21 = .ok (.iload_n 3, 1) := by decide +kernel
theorem dX10_startWood_22 : decode cX10_startWood 22 = .ok (.ireturn, 1) := by decide +kernel
set_option maxRecDepth 20000 in
theorem ggX10_lies_X11_within : GoodIn wsX10_lies wsX11_within := goodIn_r _ [5] (by decide +kernel) (by decide +kernel)
set_option maxRecDepth 20000 in
theorem gX10_lies_X11_within_n33 : GoodIn wsX10_lies (wsX11_within) := ggX10_lies_X11_within
theorem dX10_lies_0 : decode cX10_lies 0 = .ok (.aload_n 0, 1) := by decide +kernel
theorem dX10_lies_1 : decode cX10_lies 1 = .ok (.getfield 20, 3) := by decide +kernel
theorem dX10_lies_4 : decode cX10_lies 4 = .ok (.iload_n 1, 1) := by decide +kernel
theorem dX10_lies_5 : decode cX10_lies 5 = .ok (.iaload, 1) := by decide +kernel
theorem dX10_lies_6 : decode cX10_lies 6 = .ok (.iconst 2, 1) := by decide +kernel
theorem dX10_lies_7 : decode cX10_lies 7 = .ok (.if_icmp .lt 26, 3) := by decide +kernel
theorem dX10_lies_10 : decode cX10_lies 10 = .ok (.iload_n 2, 1) := by decide +kernel
theorem dX10_lies_11 : decode cX10_lies 11 = .ok (.iconst 0, 1) := by decide +kernel
theorem dX10_lies_12 : decode cX10_lies 12 = .ok (.aload_n 0, 1) := by decide +kernel
theorem dX10_lies_13 : decode cX10_lies 13 = .ok (.getfield 30, 3) := by decide +kernel
theorem dX10_lies_16 : decode cX10_lies 16 = .ok (.aload_n 0, 1) := by decide +kernel
theorem dX10_lies_17 : decode cX10_lies 17 = .ok (.getfield 20, 3) := by decide +kernel
theorem dX10_lies_20 : decode cX10_lies 20 = .ok (.iload_n 1, 1) := by decide +kernel
theorem dX10_lies_21 : decode cX10_lies 21 = .ok (.iaload, 1) := by decide +kernel
theorem dX10_lies_22 : decode cX10_lies 22 = .ok (.isub, 1) := by decide +kernel
theorem dX10_lies_23 : decode cX10_lies 23 = .ok (.invokestatic 33, 3) := by decide +kernel
theorem dX10_lies_26 : decode cX10_lies 26 = .ok (.ifCond .eq 7, 3) := by decide +kernel
theorem dX10_lies_29 : decode cX10_lies 29 = .ok (.iconst 1, 1) := by decide +kernel
theorem dX10_lies_30 : decode cX10_lies 30 = .ok (.goto 4, 3) := by decide +kernel
theorem dX10_lies_33 : decode cX10_lies 33 = .ok (.iconst 0, 1) := by decide +kernel
theorem dX10_lies_34 : decode cX10_lies 34 = .ok (.ireturn, 1) := by decide +kernel
set_option maxRecDepth 20000 in
theorem ggX10_likeness_J6_compare_7cf53 : GoodIn wsX10_likeness wsJ6_compare_7cf53 := goodIn_r _ [7] (by decide +kernel) (by decide +kernel)
set_option maxRecDepth 20000 in
theorem gX10_likeness_J6_compare_7cf53 : GoodIn wsX10_likeness (va_wsS RX10 37 yJ6_compare_7cf53 wsJ6_compare_7cf53) := goodIn_app (goodIn_of _ (by decide +kernel)) ggX10_likeness_J6_compare_7cf53
theorem dX10_likeness_0 : decode cX10_likeness 0 = .ok (.iconst 0, 1) := by decide +kernel
theorem dX10_likeness_1 : decode cX10_likeness 1 = .ok (.istore_n 3, 1) := by decide +kernel
theorem dX10_likeness_2 : decode cX10_likeness 2 = .ok (.iconst 1, 1) := by decide +kernel
theorem dX10_likeness_3 : decode cX10_likeness 3 = .ok (.istore 4, 2) := by decide +kernel
theorem dX10_likeness_5 : decode cX10_likeness 5 = .ok (.iload 4, 2) := by decide +kernel
theorem dX10_likeness_7 : decode cX10_likeness 7 = .ok (.aload_n 0, 1) := by decide +kernel
theorem dX10_likeness_8 : decode cX10_likeness 8 = .ok (.getfield 20, 3) := by decide +kernel
theorem dX10_likeness_11 : decode cX10_likeness 11 = .ok (.iload_n 1, 1) := by decide +kernel
theorem dX10_likeness_12 : decode cX10_likeness 12 = .ok (.iaload, 1) := by decide +kernel
theorem dX10_likeness_13 : decode cX10_likeness 13 = .ok (.if_icmp .ge 65, 3) := by decide +kernel
theorem dX10_likeness_16 : decode cX10_likeness 16 = .ok (.aload_n 0, 1) := by decide +kernel
theorem dX10_likeness_17 : decode cX10_likeness 17 = .ok (.getfield 17, 3) := by decide +kernel
theorem dX10_likeness_20 : decode cX10_likeness 20 = .ok (.iload_n 1, 1) := by decide +kernel
theorem dX10_likeness_21 : decode cX10_likeness 21 = .ok (.aaload, 1) := by decide +kernel
theorem dX10_likeness_22 : decode cX10_likeness 22 = .ok (.iload 4, 2) := by decide +kernel
theorem dX10_likeness_24 : decode cX10_likeness 24 = .ok (.iaload, 1) := by decide +kernel
theorem dX10_likeness_25 : decode cX10_likeness 25 = .ok (.aload_n 0, 1) := by decide +kernel
theorem dX10_likeness_26 : decode cX10_likeness 26 = .ok (.getfield 17, 3) := by decide +kernel
theorem dX10_likeness_29 : decode cX10_likeness 29 = .ok (.iload_n 1, 1) := by decide +kernel
theorem dX10_likeness_30 : decode cX10_likeness 30 = .ok (.aaload, 1) := by decide +kernel
theorem dX10_likeness_31 : decode cX10_likeness 31 = .ok (.iload 4, 2) := by decide +kernel
theorem dX10_likeness_33 : decode cX10_likeness 33 = .ok (.iconst 1, 1) := by decide +kernel
theorem dX10_likeness_34 : decode cX10_likeness 34 = .ok (.isub, 1) := by decide +kernel
theorem dX10_likeness_35 : decode cX10_likeness 35 = .ok (.iaload, 1) := by decide +kernel
theorem dX10_likeness_36 : decode cX10_likeness 36 = .ok (.invokestatic 37, 3) := by decide +kernel
theorem dX10_likeness_39 : decode cX10_likeness 39 = .ok (.istore 5, 2) := by decide +kernel
theorem dX10_likeness_41 : decode cX10_likeness 41 = .ok (.iload 5, 2) := by decide +kernel
theorem dX10_likeness_43 : decode cX10_likeness 43 = .ok (.aload_n 0, 1) := by decide +kernel
theorem dX10_likeness_44 : decode cX10_likeness 44 = .ok (.getfield 9, 3) := by decide +kernel
theorem dX10_likeness_47 : decode cX10_likeness 47 = .ok (.iload_n 2, 1) := by decide +kernel
theorem dX10_likeness_48 : decode cX10_likeness 48 = .ok (.iload 4, 2) := by decide +kernel
theorem dX10_likeness_50 : decode cX10_likeness 50 = .ok (.iadd, 1) := by decide +kernel
theorem dX10_likeness_51 : decode cX10_likeness 51 = .ok (.iaload, 1) := by decide +kernel
theorem dX10_likeness_52 : decode cX10_likeness 52 = .ok (.aload_n 0, 1) := by decide +kernel
theorem dX10_likeness_53 : decode cX10_likeness 53 = .ok (.getfield 9, 3) := by decide +kernel
theorem dX10_likeness_56 : decode cX10_likeness 56 = .ok (.iload_n 2, 1) := by decide +kernel
theorem dX10_likeness_57 : decode cX10_likeness 57 = .ok (.iload 4, 2) := by decide +kernel
theorem dX10_likeness_59 : decode cX10_likeness 59 = .ok (.iadd, 1) := by decide +kernel
theorem dX10_likeness_60 : decode cX10_likeness 60 = .ok (.iconst 1, 1) := by decide +kernel
theorem dX10_likeness_61 : decode cX10_likeness 61 = .ok (.isub, 1) := by decide +kernel
theorem dX10_likeness_62 : decode cX10_likeness 62 = .ok (.iaload, 1) := by decide +kernel
theorem dX10_likeness_63 : decode cX10_likeness 63 = .ok (.invokestatic 37, 3) := by decide +kernel
theorem dX10_likeness_66 : decode cX10_likeness 66 = .ok (.if_icmp .ne 6, 3) := by decide +kernel
theorem dX10_likeness_69 : decode cX10_likeness 69 = .ok (.iinc 3 1, 3) := by decide +kernel
theorem dX10_likeness_72 : decode cX10_likeness 72 = .ok (.iinc 4 1, 3) := by decide +kernel
theorem dX10_likeness_75 : decode cX10_likeness 75 = .ok (.goto (-70), 3) := by decide +kernel
theorem dX10_likeness_78 : decode cX10_likeness 78 = .ok (.iload_n 3, 1) := by decide +kernel
theorem dX10_likeness_79 : decode cX10_likeness 79 = .ok (.ireturn, 1) := by decide +kernel
set_option maxRecDepth 20000 in
theorem ggX10_laidOn_X10_likeness : GoodIn wsX10_laidOn wsX10_likeness := goodIn_r _ [7, 1, 8, 9, 10, 11, 12, 13, 14, 15, 16, 17, 18, 19] (by decide +kernel) (by decide +kernel)
set_option maxRecDepth 20000 in
theorem gX10_laidOn_X10_likeness : GoodIn wsX10_laidOn (wsV RX10 43 RX10 yX10_likeness wsX10_likeness) := goodIn_app (goodIn_of _ (by decide +kernel)) ggX10_laidOn_X10_likeness
theorem dX10_laidOn_0 : decode cX10_laidOn 0 = .ok (.bipush (-9), 2) := by decide +kernel
theorem dX10_laidOn_2 : decode cX10_laidOn 2 = .ok (.istore_n 2, 1) := by decide +kernel
theorem dX10_laidOn_3 : decode cX10_laidOn 3 = .ok (.iconst (-1), 1) := by decide +kernel
theorem dX10_laidOn_4 : decode cX10_laidOn 4 = .ok (.istore_n 3, 1) := by decide +kernel
theorem dX10_laidOn_5 : decode cX10_laidOn 5 = .ok (.aload_n 0, 1) := by decide +kernel
theorem dX10_laidOn_6 : decode cX10_laidOn 6 = .ok (.getfield 20, 3) := by decide +kernel
theorem dX10_laidOn_9 : decode cX10_laidOn 9 = .ok (.iload_n 1, 1) := by decide +kernel
theorem dX10_laidOn_10 : decode cX10_laidOn 10 = .ok (.iaload, 1) := by decide +kernel
theorem dX10_laidOn_11 : decode cX10_laidOn 11 = .ok (.iconst 2, 1) := by decide +kernel
theorem dX10_laidOn_12 : decode cX10_laidOn 12 = .ok (.if_icmp .ge 5, 3) := by decide +kernel
theorem dX10_laidOn_15 : decode cX10_laidOn 15 = .ok (.iload_n 2, 1) := by decide +kernel
theorem dX10_laidOn_16 : decode cX10_laidOn 16 = .ok (.ireturn, 1) := by decide +kernel
theorem dX10_laidOn_17 : decode cX10_laidOn 17 = .ok (.iconst 0, 1) := by decide +kernel
theorem dX10_laidOn_18 : decode cX10_laidOn 18 = .ok (.istore 4, 2) := by decide +kernel
theorem dX10_laidOn_20 : decode cX10_laidOn 20 = .ok (.iload 4, 2) := by decide +kernel
theorem dX10_laidOn_22 : decode cX10_laidOn 22 = .ok (.aload_n 0, 1) := by decide +kernel
theorem dX10_laidOn_23 : decode cX10_laidOn 23 = .ok (.getfield 30, 3) := by decide +kernel
theorem dX10_laidOn_26 : decode cX10_laidOn 26 = .ok (.aload_n 0, 1) := by decide +kernel
theorem dX10_laidOn_27 : decode cX10_laidOn 27 = .ok (.getfield 20, 3) := by decide +kernel
theorem dX10_laidOn_30 : decode cX10_laidOn 30 = .ok (.iload_n 1, 1) := by decide +kernel
theorem dX10_laidOn_31 : decode cX10_laidOn 31 = .ok (.iaload, 1) := by decide +kernel
theorem dX10_laidOn_32 : decode cX10_laidOn 32 = .ok (.isub, 1) := by decide +kernel
theorem dX10_laidOn_33 : decode cX10_laidOn 33 = .ok (.if_icmp .gt 30, 3) := by decide +kernel
theorem dX10_laidOn_36 : decode cX10_laidOn 36 = .ok (.aload_n 0, 1) := by decide +kernel
theorem dX10_laidOn_37 : decode cX10_laidOn 37 = .ok (.iload_n 1, 1) := by decide +kernel
theorem dX10_laidOn_38 : decode cX10_laidOn 38 = .ok (.iload 4, 2) := by decide +kernel
theorem dX10_laidOn_40 : decode cX10_laidOn 40 = .ok (.invokevirtual 43, 3) := by decide +kernel
theorem dX10_laidOn_43 : decode cX10_laidOn 43 = .ok (.istore 5, 2) := by decide +kernel
theorem dX10_laidOn_45 : decode cX10_laidOn 45 = .ok (.iload 5, 2) := by decide +kernel
theorem dX10_laidOn_47 : decode cX10_laidOn 47 = .ok (.iload_n 3, 1) := by decide +kernel
theorem dX10_laidOn_48 : decode cX10_laidOn 48 = .ok (.if_icmp .le 9, 3) := by decide +kernel
theorem dX10_laidOn_51 : decode cX10_laidOn 51 = .ok (.iload 5, 2) := by decide +kernel
theorem dX10_laidOn_53 : decode cX10_laidOn 53 = .ok (.istore_n 3, 1) := by decide +kernel
theorem dX10_laidOn_54 : decode cX10_laidOn 54 = .ok (.iload 4, 2) := by decide +kernel
theorem dX10_laidOn_56 : decode cX10_laidOn 56 = .ok (.istore_n 2, 1) := by decide +kernel
theorem dX10_laidOn_57 : decode cX10_laidOn 57 = .ok (.iinc 4 1, 3) := by decide +kernel
theorem dX10_laidOn_60 : decode cX10_laidOn 60 = .ok (.goto (-40), 3) := by decide +kernel
theorem dX10_laidOn_63 : decode cX10_laidOn 63 = .ok (.iload_n 2, 1) := by decide +kernel
theorem dX10_laidOn_64 : decode cX10_laidOn 64 = .ok (.ireturn, 1) := by decide +kernel
theorem dX10_lastYear_0 : decode cX10_lastYear 0 = .ok (.aload_n 0, 1) := by decide +kernel
theorem dX10_lastYear_1 : decode cX10_lastYear 1 = .ok (.getfield 26, 3) := by decide +kernel
theorem dX10_lastYear_4 : decode cX10_lastYear 4 = .ok (.iload_n 2, 1) := by decide +kernel
theorem dX10_lastYear_5 : decode cX10_lastYear 5 = .ok (.iadd, 1) := by decide +kernel
theorem dX10_lastYear_6 : decode cX10_lastYear 6 = .ok (.aload_n 0, 1) := by decide +kernel
theorem dX10_lastYear_7 : decode cX10_lastYear 7 = .ok (.getfield 20, 3) := by decide +kernel
theorem dX10_lastYear_10 : decode cX10_lastYear 10 = .ok (.iload_n 1, 1) := by decide +kernel
theorem dX10_lastYear_11 : decode cX10_lastYear 11 = .ok (.iaload, 1) := by decide +kernel
theorem dX10_lastYear_12 : decode cX10_lastYear 12 = .ok (.iadd, 1) := by decide +kernel
theorem dX10_lastYear_13 : decode cX10_lastYear 13 = .ok (.iconst 1, 1) := by decide +kernel
theorem dX10_lastYear_14 : decode cX10_lastYear 14 = .ok (.isub, 1) := by decide +kernel
theorem dX10_lastYear_15 : decode cX10_lastYear 15 = .ok (.ireturn, 1) := by decide +kernel
set_option maxRecDepth 20000 in
theorem ggX10_sharedDeath_X10_laidOn : GoodIn wsX10_sharedDeath wsX10_laidOn := goodIn_r _ [6, 7, 8, 9, 10, 11, 5, 12, 13, 14, 15, 16, 17, 18, 24, 25, 26, 27, 28, 29] (by decide +kernel) (by decide +kernel)
set_option maxRecDepth 20000 in
theorem gX10_sharedDeath_X10_laidOn : GoodIn wsX10_sharedDeath (wsV RX10 46 RX10 yX10_laidOn wsX10_laidOn) := goodIn_app (goodIn_of _ (by decide +kernel)) ggX10_sharedDeath_X10_laidOn
set_option maxRecDepth 20000 in
theorem ggX10_sharedDeath_X10_lastYear : GoodIn wsX10_sharedDeath wsX10_lastYear := goodIn_r _ [22, 23, 7, 24, 25, 26, 27, 28, 29] (by decide +kernel) (by decide +kernel)
set_option maxRecDepth 20000 in
theorem gX10_sharedDeath_X10_lastYear : GoodIn wsX10_sharedDeath (wsV RX10 50 RX10 yX10_lastYear wsX10_lastYear) := goodIn_app (goodIn_of _ (by decide +kernel)) ggX10_sharedDeath_X10_lastYear
theorem dX10_sharedDeath_0 : decode cX10_sharedDeath 0 = .ok (.bipush (-9), 2) := by decide +kernel
theorem dX10_sharedDeath_2 : decode cX10_sharedDeath 2 = .ok (.istore_n 1, 1) := by decide +kernel
theorem dX10_sharedDeath_3 : decode cX10_sharedDeath 3 = .ok (.bipush (-9), 2) := by decide +kernel
theorem dX10_sharedDeath_5 : decode cX10_sharedDeath 5 = .ok (.istore_n 2, 1) := by decide +kernel
theorem dX10_sharedDeath_6 : decode cX10_sharedDeath 6 = .ok (.iconst 0, 1) := by decide +kernel
theorem dX10_sharedDeath_7 : decode cX10_sharedDeath 7 = .ok (.istore_n 3, 1) := by decide +kernel
theorem dX10_sharedDeath_8 : decode cX10_sharedDeath 8 = .ok (.iload_n 3, 1) := by decide +kernel
theorem dX10_sharedDeath_9 : decode cX10_sharedDeath 9 = .ok (.iconst 4, 1) := by decide +kernel
theorem dX10_sharedDeath_10 : decode cX10_sharedDeath 10 = .ok (.if_icmp .ge 74, 3) := by decide +kernel
theorem dX10_sharedDeath_13 : decode cX10_sharedDeath 13 = .ok (.aload_n 0, 1) := by decide +kernel
theorem dX10_sharedDeath_14 : decode cX10_sharedDeath 14 = .ok (.iload_n 3, 1) := by decide +kernel
theorem dX10_sharedDeath_15 : decode cX10_sharedDeath 15 = .ok (.invokevirtual 46, 3) := by decide +kernel
theorem dX10_sharedDeath_18 : decode cX10_sharedDeath 18 = .ok (.istore 4, 2) := by decide +kernel
theorem dX10_sharedDeath_20 : decode cX10_sharedDeath 20 = .ok (.iload 4, 2) := by decide +kernel
theorem dX10_sharedDeath_22 : decode cX10_sharedDeath 22 = .ok (.bipush (-9), 2) := by decide +kernel
theorem dX10_sharedDeath_24 : decode cX10_sharedDeath 24 = .ok (.if_icmp .ne 6, 3) := by decide +kernel
theorem dX10_sharedDeath_27 : decode cX10_sharedDeath 27 = .ok (.goto 51, 3) := by decide +kernel
theorem dX10_sharedDeath_30 : decode cX10_sharedDeath 30 = .ok (.iload_n 1, 1) := by decide +kernel
theorem dX10_sharedDeath_31 : decode cX10_sharedDeath 31 = .ok (.bipush (-9), 2) := by decide +kernel
theorem dX10_sharedDeath_33 : decode cX10_sharedDeath 33 = .ok (.if_icmp .ne 21, 3) := by decide +kernel
theorem dX10_sharedDeath_36 : decode cX10_sharedDeath 36 = .ok (.aload_n 0, 1) := by decide +kernel
theorem dX10_sharedDeath_37 : decode cX10_sharedDeath 37 = .ok (.iload_n 3, 1) := by decide +kernel
theorem dX10_sharedDeath_38 : decode cX10_sharedDeath 38 = .ok (.iload 4, 2) := by decide +kernel
theorem dX10_sharedDeath_40 : decode cX10_sharedDeath 40 = .ok (.invokevirtual 50, 3) := by decide +kernel
theorem dX10_sharedDeath_43 : decode cX10_sharedDeath 43 = .ok (.istore_n 1, 1) := by decide +kernel
theorem dX10_sharedDeath_44 : decode cX10_sharedDeath 44 = .ok (.aload_n 0, 1) := by decide +kernel
theorem dX10_sharedDeath_45 : decode cX10_sharedDeath 45 = .ok (.getfield 23, 3) := by decide +kernel
theorem dX10_sharedDeath_48 : decode cX10_sharedDeath 48 = .ok (.iload_n 3, 1) := by decide +kernel
theorem dX10_sharedDeath_49 : decode cX10_sharedDeath 49 = .ok (.iaload, 1) := by decide +kernel
theorem dX10_sharedDeath_50 : decode cX10_sharedDeath 50 = .ok (.istore_n 2, 1) := by decide +kernel
theorem dX10_sharedDeath_51 : decode cX10_sharedDeath 51 = .ok (.goto 27, 3) := by decide +kernel
theorem dX10_sharedDeath_54 : decode cX10_sharedDeath 54 = .ok (.iload_n 1, 1) := by decide +kernel
theorem dX10_sharedDeath_55 : decode cX10_sharedDeath 55 = .ok (.aload_n 0, 1) := by decide +kernel
theorem dX10_sharedDeath_56 : decode cX10_sharedDeath 56 = .ok (.iload_n 3, 1) := by decide +kernel
theorem dX10_sharedDeath_57 : decode cX10_sharedDeath 57 = .ok (.iload 4, 2) := by decide +kernel
theorem dX10_sharedDeath_59 : decode cX10_sharedDeath 59 = .ok (.invokevirtual 50, 3) := by decide +kernel
theorem dX10_sharedDeath_62 : decode cX10_sharedDeath 62 = .ok (.if_icmp .ne 13, 3) := by decide +kernel
theorem dX10_sharedDeath_65 : decode cX10_sharedDeath 65 = .ok (.iload_n 2, 1) := by decide +kernel
theorem dX10_sharedDeath_66 : decode cX10_sharedDeath 66 = .ok (.aload_n 0, 1) := by decide +kernel
theorem dX10_sharedDeath_67 : decode cX10_sharedDeath 67 = .ok (.getfield 23, 3) := by decide +kernel
theorem dX10_sharedDeath_70 : decode cX10_sharedDeath 70 = .ok (.iload_n 3, 1) := by decide +kernel
theorem dX10_sharedDeath_71 : decode cX10_sharedDeath 71 = .ok (.iaload, 1) := by decide +kernel
theorem dX10_sharedDeath_72 : decode cX10_sharedDeath 72 = .ok (.if_icmp .eq 6, 3) := by decide +kernel
theorem dX10_sharedDeath_75 : decode cX10_sharedDeath 75 = .ok (.bipush (-9), 2) := by decide +kernel
theorem dX10_sharedDeath_77 : decode cX10_sharedDeath 77 = .ok (.ireturn, 1) := by decide +kernel
theorem dX10_sharedDeath_78 : decode cX10_sharedDeath 78 = .ok (.iinc 3 1, 3) := by decide +kernel
theorem dX10_sharedDeath_81 : decode cX10_sharedDeath 81 = .ok (.goto (-73), 3) := by decide +kernel
theorem dX10_sharedDeath_84 : decode cX10_sharedDeath 84 = .ok (.iload_n 1, 1) := by decide +kernel
theorem dX10_sharedDeath_85 : decode cX10_sharedDeath 85 = .ok (.ireturn, 1) := by decide +kernel
set_option maxRecDepth 20000 in
theorem ggX11_init_X9_init : GoodIn wsX11_init wsX9_init := goodIn_r _ [40, 41, 2, 3, 42, 43, 124, 125] (by decide +kernel) (by decide +kernel)
set_option maxRecDepth 20000 in
theorem gX11_init_X9_init_n11 : GoodIn wsX11_init (wsX9_init) := ggX11_init_X9_init
set_option maxRecDepth 20000 in
theorem ggX11_init_X4_init : GoodIn wsX11_init wsX4_init := goodIn_r _ [45, 46, 2, 3, 47, 48, 49, 50, 51, 52, 137, 138, 139, 140, 141] (by decide +kernel) (by decide +kernel)
set_option maxRecDepth 20000 in
theorem gX11_init_X4_init_n18 : GoodIn wsX11_init (wsX4_init) := ggX11_init_X4_init
set_option maxRecDepth 20000 in
theorem ggX11_init_X10_init : GoodIn wsX11_init wsX10_init := goodIn_r _ [54, 55, 2, 3, 47, 56, 57, 58, 59, 60, 61, 142, 143, 144, 145, 146, 147] (by decide +kernel) (by decide +kernel)
set_option maxRecDepth 20000 in
theorem gX11_init_X10_init_n25 : GoodIn wsX11_init (wsX10_init) := ggX11_init_X10_init
set_option maxRecDepth 20000 in
theorem ggX11_init_X2_init : GoodIn wsX11_init wsX2_init := goodIn_r _ [63, 64, 2, 3, 65, 66, 67, 68, 69, 70, 71, 72, 73, 74, 75, 76, 77, 78, 79, 80, 81, 47, 82, 83, 84, 85, 86, 87, 88, 89, 90, 91, 92, 93, 94, 95, 96, 165, 166, 167, 168, 169, 170, 148, 149, 150, 151, 152, 153, 171, 172, 173, 174, 175, 176] (by decide +kernel) (by decide +kernel)
set_option maxRecDepth 20000 in
theorem gX11_init_X2_init_n32 : GoodIn wsX11_init (wsX2_init) := ggX11_init_X2_init
set_option maxRecDepth 20000 in
theorem ggX11_init_X5_init : GoodIn wsX11_init wsX5_init := goodIn_r _ [99, 100, 2, 3, 101, 47, 102, 103, 104, 154, 155, 156] (by decide +kernel) (by decide +kernel)
set_option maxRecDepth 20000 in
theorem gX11_init_X5_init : GoodIn wsX11_init (wsX5_init) := ggX11_init_X5_init
set_option maxRecDepth 20000 in
theorem ggX11_init_X8_init : GoodIn wsX11_init wsX8_init := goodIn_r _ [107, 108, 2, 3, 109, 47, 110, 77, 111, 112, 157, 158, 159] (by decide +kernel) (by decide +kernel)
set_option maxRecDepth 20000 in
theorem gX11_init_X8_init : GoodIn wsX11_init (wsX8_init) := ggX11_init_X8_init
set_option maxRecDepth 20000 in
theorem ggX11_init_X7_init : GoodIn wsX11_init wsX7_init := goodIn_r _ [115, 116, 2, 3, 117, 160, 161] (by decide +kernel) (by decide +kernel)
set_option maxRecDepth 20000 in
theorem gX11_init_X7_init : GoodIn wsX11_init (wsX7_init) := ggX11_init_X7_init
set_option maxRecDepth 20000 in
theorem ggX11_init_X1_init : GoodIn wsX11_init wsX1_init := goodIn_r _ [119, 120, 2, 3, 121, 47, 122, 123, 162, 163, 164] (by decide +kernel) (by decide +kernel)
set_option maxRecDepth 20000 in
theorem gX11_init_X1_init_n72 : GoodIn wsX11_init (wsX1_init) := ggX11_init_X1_init
theorem dX11_init_0 : decode cX11_init 0 = .ok (.aload_n 0, 1) := by decide +kernel
theorem dX11_init_1 : decode cX11_init 1 = .ok (.invokespecial 3, 3) := by decide +kernel
theorem dX11_init_4 : decode cX11_init 4 = .ok (.aload_n 0, 1) := by decide +kernel
theorem dX11_init_5 : decode cX11_init 5 = .ok (.new 9, 3) := by decide +kernel
theorem dX11_init_8 : decode cX11_init 8 = .ok (.dup, 1) := by decide +kernel
theorem dX11_init_9 : decode cX11_init 9 = .ok (.invokespecial 11, 3) := by decide +kernel
theorem dX11_init_12 : decode cX11_init 12 = .ok (.putfield 12, 3) := by decide +kernel
theorem dX11_init_15 : decode cX11_init 15 = .ok (.aload_n 0, 1) := by decide +kernel
theorem dX11_init_16 : decode cX11_init 16 = .ok (.new 16, 3) := by decide +kernel
theorem dX11_init_19 : decode cX11_init 19 = .ok (.dup, 1) := by decide +kernel
theorem dX11_init_20 : decode cX11_init 20 = .ok (.invokespecial 18, 3) := by decide +kernel
theorem dX11_init_23 : decode cX11_init 23 = .ok (.putfield 19, 3) := by decide +kernel
theorem dX11_init_26 : decode cX11_init 26 = .ok (.aload_n 0, 1) := by decide +kernel
theorem dX11_init_27 : decode cX11_init 27 = .ok (.new 23, 3) := by decide +kernel
theorem dX11_init_30 : decode cX11_init 30 = .ok (.dup, 1) := by decide +kernel
theorem dX11_init_31 : decode cX11_init 31 = .ok (.invokespecial 25, 3) := by decide +kernel
theorem dX11_init_34 : decode cX11_init 34 = .ok (.putfield 26, 3) := by decide +kernel
theorem dX11_init_37 : decode cX11_init 37 = .ok (.aload_n 0, 1) := by decide +kernel
theorem dX11_init_38 : decode cX11_init 38 = .ok (.new 30, 3) := by decide +kernel
theorem dX11_init_41 : decode cX11_init 41 = .ok (.dup, 1) := by decide +kernel
theorem dX11_init_42 : decode cX11_init 42 = .ok (.invokespecial 32, 3) := by decide +kernel
theorem dX11_init_45 : decode cX11_init 45 = .ok (.putfield 33, 3) := by decide +kernel
theorem dX11_init_48 : decode cX11_init 48 = .ok (.aload_n 0, 1) := by decide +kernel
theorem dX11_init_49 : decode cX11_init 49 = .ok (.iconst 2, 1) := by decide +kernel
theorem dX11_init_50 : decode cX11_init 50 = .ok (.anewarray 30, 3) := by decide +kernel
theorem dX11_init_53 : decode cX11_init 53 = .ok (.putfield 37, 3) := by decide +kernel
theorem dX11_init_56 : decode cX11_init 56 = .ok (.aload_n 0, 1) := by decide +kernel
theorem dX11_init_57 : decode cX11_init 57 = .ok (.new 41, 3) := by decide +kernel
theorem dX11_init_60 : decode cX11_init 60 = .ok (.dup, 1) := by decide +kernel
theorem dX11_init_61 : decode cX11_init 61 = .ok (.aload_n 0, 1) := by decide +kernel
theorem dX11_init_62 : decode cX11_init 62 = .ok (.getfield 19, 3) := by decide +kernel
theorem dX11_init_65 : decode cX11_init 65 = .ok (.aload_n 0, 1) := by decide +kernel
theorem dX11_init_66 : decode cX11_init 66 = .ok (.getfield 33, 3) := by decide +kernel
theorem dX11_init_69 : decode cX11_init 69 = .ok (.getfield 43, 3) := by decide +kernel
theorem dX11_init_72 : decode cX11_init 72 = .ok (.invokespecial 47, 3) := by decide +kernel
theorem dX11_init_75 : decode cX11_init 75 = .ok (.putfield 50, 3) := by decide +kernel
theorem dX11_init_78 : decode cX11_init 78 = .ok (.aload_n 0, 1) := by decide +kernel
theorem dX11_init_79 : decode cX11_init 79 = .ok (.new 54, 3) := by decide +kernel
theorem dX11_init_82 : decode cX11_init 82 = .ok (.dup, 1) := by decide +kernel
theorem dX11_init_83 : decode cX11_init 83 = .ok (.aload_n 0, 1) := by decide +kernel
theorem dX11_init_84 : decode cX11_init 84 = .ok (.getfield 33, 3) := by decide +kernel
theorem dX11_init_87 : decode cX11_init 87 = .ok (.invokespecial 56, 3) := by decide +kernel
theorem dX11_init_90 : decode cX11_init 90 = .ok (.putfield 59, 3) := by decide +kernel
theorem dX11_init_93 : decode cX11_init 93 = .ok (.aload_n 0, 1) := by decide +kernel
theorem dX11_init_94 : decode cX11_init 94 = .ok (.new 63, 3) := by decide +kernel
theorem dX11_init_97 : decode cX11_init 97 = .ok (.dup, 1) := by decide +kernel
theorem dX11_init_98 : decode cX11_init 98 = .ok (.aload_n 0, 1) := by decide +kernel
theorem dX11_init_99 : decode cX11_init 99 = .ok (.getfield 33, 3) := by decide +kernel
theorem dX11_init_102 : decode cX11_init 102 = .ok (.invokespecial 65, 3) := by decide +kernel
theorem dX11_init_105 : decode cX11_init 105 = .ok (.putfield 66, 3) := by decide +kernel
theorem dX11_init_108 : decode cX11_init 108 = .ok (.aload_n 0, 1) := by decide +kernel
theorem dX11_init_109 : decode cX11_init 109 = .ok (.new 70, 3) := by decide +kernel
theorem dX11_init_112 : decode cX11_init 112 = .ok (.dup, 1) := by decide +kernel
theorem dX11_init_113 : decode cX11_init 113 = .ok (.invokespecial 72, 3) := by decide +kernel
theorem dX11_init_116 : decode cX11_init 116 = .ok (.putfield 73, 3) := by decide +kernel
theorem dX11_init_119 : decode cX11_init 119 = .ok (.aload_n 0, 1) := by decide +kernel
theorem dX11_init_120 : decode cX11_init 120 = .ok (.new 70, 3) := by decide +kernel
theorem dX11_init_123 : decode cX11_init 123 = .ok (.dup, 1) := by decide +kernel
theorem dX11_init_124 : decode cX11_init 124 = .ok (.invokespecial 72, 3) := by decide +kernel
theorem dX11_init_127 : decode cX11_init 127 = .ok (.putfield 77, 3) := by decide +kernel
theorem dX11_init_130 : decode cX11_init 130 = .ok (.aload_n 0, 1) := by decide +kernel
theorem dX11_init_131 : decode cX11_init 131 = .ok (.sipush 2000, 3) := by decide +kernel
theorem dX11_init_134 : decode cX11_init 134 = .ok (.putfield 80, 3) := by decide +kernel
theorem dX11_init_137 : decode cX11_init 137 = .ok (.iconst 0, 1) := by decide +kernel
theorem dX11_init_138 : decode cX11_init 138 = .ok (.istore_n 1, 1) := by decide +kernel
theorem dX11_init_139 : decode cX11_init 139 = .ok (.iload_n 1, 1) := by decide +kernel
theorem dX11_init_140 : decode cX11_init 140 = .ok (.iconst 2, 1) := by decide +kernel
theorem dX11_init_141 : decode cX11_init 141 = .ok (.if_icmp .ge 22, 3) := by decide +kernel
theorem dX11_init_144 : decode cX11_init 144 = .ok (.aload_n 0, 1) := by decide +kernel
theorem dX11_init_145 : decode cX11_init 145 = .ok (.getfield 37, 3) := by decide +kernel
theorem dX11_init_148 : decode cX11_init 148 = .ok (.iload_n 1, 1) := by decide +kernel
theorem dX11_init_149 : decode cX11_init 149 = .ok (.new 30, 3) := by decide +kernel
theorem dX11_init_152 : decode cX11_init 152 = .ok (.dup, 1) := by decide +kernel
theorem dX11_init_153 : decode cX11_init 153 = .ok (.invokespecial 32, 3) := by decide +kernel
theorem dX11_init_156 : decode cX11_init 156 = .ok (.aastore, 1) := by decide +kernel
theorem dX11_init_157 : decode cX11_init 157 = .ok (.iinc 1 1, 3) := by decide +kernel
theorem dX11_init_160 : decode cX11_init 160 = .ok (.goto (-21), 3) := by decide +kernel
theorem dX11_init_163 : decode cX11_init 163 = .ok (.return_, 1) := by decide +kernel
set_option maxRecDepth 20000 in
theorem ggX11_type_X11_within : GoodIn wsX11_type wsX11_within := goodIn_r _ [5] (by decide +kernel) (by decide +kernel)
set_option maxRecDepth 20000 in
theorem gX11_type_X11_within : GoodIn wsX11_type (va_wsS RX11 84 yX11_within wsX11_within) := goodIn_app (goodIn_of _ (by decide +kernel)) ggX11_type_X11_within
set_option maxRecDepth 20000 in
theorem ggX11_type_X9_append : GoodIn wsX11_type wsX9_append := goodIn_r _ [10, 11, 12, 24, 25] (by decide +kernel) (by decide +kernel)
set_option maxRecDepth 20000 in
theorem gX11_type_X9_append : GoodIn wsX11_type (wsV RX11 91 RX9 yX9_append wsX9_append) := goodIn_app (goodIn_of _ (by decide +kernel)) ggX11_type_X9_append
theorem dX11_type_0 : decode cX11_type 0 = .ok (.iload_n 3, 1) := by decide +kernel
theorem dX11_type_1 : decode cX11_type 1 = .ok (.iconst 1, 1) := by decide +kernel
theorem dX11_type_2 : decode cX11_type 2 = .ok (.bipush 8, 2) := by decide +kernel
theorem dX11_type_4 : decode cX11_type 4 = .ok (.invokestatic 84, 3) := by decide +kernel
theorem dX11_type_7 : decode cX11_type 7 = .ok (.ifCond .ne 5, 3) := by decide +kernel
theorem dX11_type_10 : decode cX11_type 10 = .ok (.iconst (-1), 1) := by decide +kernel
theorem dX11_type_11 : decode cX11_type 11 = .ok (.ireturn, 1) := by decide +kernel
theorem dX11_type_12 : decode cX11_type 12 = .ok (.iload_n 3, 1) := by decide +kernel
theorem dX11_type_13 : decode cX11_type 13 = .ok (.sipush 400, 3) := by decide +kernel
theorem dX11_type_16 : decode cX11_type 16 = .ok (.aload_n 0, 1) := by decide +kernel
theorem dX11_type_17 : decode cX11_type 17 = .ok (.getfield 12, 3) := by decide +kernel
theorem dX11_type_20 : decode cX11_type 20 = .ok (.getfield 88, 3) := by decide +kernel
theorem dX11_type_23 : decode cX11_type 23 = .ok (.isub, 1) := by decide +kernel
theorem dX11_type_24 : decode cX11_type 24 = .ok (.if_icmp .le 6, 3) := by decide +kernel
theorem dX11_type_27 : decode cX11_type 27 = .ok (.bipush (-3), 2) := by decide +kernel
theorem dX11_type_29 : decode cX11_type 29 = .ok (.ireturn, 1) := by decide +kernel
theorem dX11_type_30 : decode cX11_type 30 = .ok (.iload_n 3, 1) := by decide +kernel
theorem dX11_type_31 : decode cX11_type 31 = .ok (.iconst 1, 1) := by decide +kernel
theorem dX11_type_32 : decode cX11_type 32 = .ok (.isub, 1) := by decide +kernel
theorem dX11_type_33 : decode cX11_type 33 = .ok (.istore 4, 2) := by decide +kernel
theorem dX11_type_35 : decode cX11_type 35 = .ok (.iload 4, 2) := by decide +kernel
theorem dX11_type_37 : decode cX11_type 37 = .ok (.ifCond .lt 25, 3) := by decide +kernel
theorem dX11_type_40 : decode cX11_type 40 = .ok (.aload_n 0, 1) := by decide +kernel
theorem dX11_type_41 : decode cX11_type 41 = .ok (.getfield 12, 3) := by decide +kernel
theorem dX11_type_44 : decode cX11_type 44 = .ok (.lload_n 1, 1) := by decide +kernel
theorem dX11_type_45 : decode cX11_type 45 = .ok (.bipush 8, 2) := by decide +kernel
theorem dX11_type_47 : decode cX11_type 47 = .ok (.iload 4, 2) := by decide +kernel
theorem dX11_type_49 : decode cX11_type 49 = .ok (.imul, 1) := by decide +kernel
theorem dX11_type_50 : decode cX11_type 50 = .ok (.lushr, 1) := by decide +kernel
theorem dX11_type_51 : decode cX11_type 51 = .ok (.l2i, 1) := by decide +kernel
theorem dX11_type_52 : decode cX11_type 52 = .ok (.i2b, 1) := by decide +kernel
theorem dX11_type_53 : decode cX11_type 53 = .ok (.invokevirtual 91, 3) := by decide +kernel
theorem dX11_type_56 : decode cX11_type 56 = .ok (.iinc 4 (-1), 3) := by decide +kernel
theorem dX11_type_59 : decode cX11_type 59 = .ok (.goto (-24), 3) := by decide +kernel
theorem dX11_type_62 : decode cX11_type 62 = .ok (.aload_n 0, 1) := by decide +kernel
theorem dX11_type_63 : decode cX11_type 63 = .ok (.getfield 12, 3) := by decide +kernel
theorem dX11_type_66 : decode cX11_type 66 = .ok (.getfield 88, 3) := by decide +kernel
theorem dX11_type_69 : decode cX11_type 69 = .ok (.ireturn, 1) := by decide +kernel
set_option maxRecDepth 20000 in
theorem ggX11_clear_X9_empty : GoodIn wsX11_clear wsX9_empty := goodIn_r _ [6, 7, 19, 20] (by decide +kernel) (by decide +kernel)
set_option maxRecDepth 20000 in
theorem gX11_clear_X9_empty : GoodIn wsX11_clear (wsV RX11 95 RX9 yX9_empty wsX9_empty) := goodIn_app (goodIn_of _ (by decide +kernel)) ggX11_clear_X9_empty
theorem dX11_clear_0 : decode cX11_clear 0 = .ok (.aload_n 0, 1) := by decide +kernel
theorem dX11_clear_1 : decode cX11_clear 1 = .ok (.getfield 12, 3) := by decide +kernel
theorem dX11_clear_4 : decode cX11_clear 4 = .ok (.invokevirtual 95, 3) := by decide +kernel
theorem dX11_clear_7 : decode cX11_clear 7 = .ok (.ireturn, 1) := by decide +kernel
set_option maxRecDepth 20000 in
theorem ggX11_ocean_X4_become : GoodIn wsX11_ocean wsX4_become := goodIn_r _ [7, 8, 9, 10, 11, 12, 13, 14, 15, 16, 6, 17, 18, 19, 20, 21, 22, 23, 24, 25, 26, 27, 28, 29, 49, 50, 51, 52, 53, 54, 55] (by decide +kernel) (by decide +kernel)
set_option maxRecDepth 20000 in
theorem gX11_ocean_X4_become : GoodIn wsX11_ocean (wsV RX11 99 RX4 yX4_become wsX4_become) := goodIn_app (goodIn_of _ (by decide +kernel)) ggX11_ocean_X4_become
set_option maxRecDepth 20000 in
theorem ggX11_ocean_X9_empty : GoodIn wsX11_ocean wsX9_empty := goodIn_r _ [33, 23, 54, 55] (by decide +kernel) (by decide +kernel)
set_option maxRecDepth 20000 in
theorem gX11_ocean_X9_empty : GoodIn wsX11_ocean (wsV RX11 95 RX9 yX9_empty wsX9_empty) := goodIn_app (goodIn_of _ (by decide +kernel)) ggX11_ocean_X9_empty
set_option maxRecDepth 20000 in
theorem ggX11_ocean_X4_seaCells : GoodIn wsX11_ocean wsX4_seaCells := goodIn_r _ [37, 9, 49, 50, 51, 52, 53] (by decide +kernel) (by decide +kernel)
set_option maxRecDepth 20000 in
theorem gX11_ocean_X4_seaCells : GoodIn wsX11_ocean (wsV RX11 103 RX4 yX4_seaCells wsX4_seaCells) := goodIn_app (goodIn_of _ (by decide +kernel)) ggX11_ocean_X4_seaCells
theorem dX11_ocean_0 : decode cX11_ocean 0 = .ok (.aload_n 0, 1) := by decide +kernel
theorem dX11_ocean_1 : decode cX11_ocean 1 = .ok (.getfield 19, 3) := by decide +kernel
theorem dX11_ocean_4 : decode cX11_ocean 4 = .ok (.aload_n 0, 1) := by decide +kernel
theorem dX11_ocean_5 : decode cX11_ocean 5 = .ok (.getfield 12, 3) := by decide +kernel
theorem dX11_ocean_8 : decode cX11_ocean 8 = .ok (.invokevirtual 99, 3) := by decide +kernel
theorem dX11_ocean_11 : decode cX11_ocean 11 = .ok (.istore_n 1, 1) := by decide +kernel
theorem dX11_ocean_12 : decode cX11_ocean 12 = .ok (.iload_n 1, 1) := by decide +kernel
theorem dX11_ocean_13 : decode cX11_ocean 13 = .ok (.iconst (-1), 1) := by decide +kernel
theorem dX11_ocean_14 : decode cX11_ocean 14 = .ok (.if_icmp .eq 8, 3) := by decide +kernel
theorem dX11_ocean_17 : decode cX11_ocean 17 = .ok (.bipush (-10), 2) := by decide +kernel
theorem dX11_ocean_19 : decode cX11_ocean 19 = .ok (.iload_n 1, 1) := by decide +kernel
theorem dX11_ocean_20 : decode cX11_ocean 20 = .ok (.isub, 1) := by decide +kernel
theorem dX11_ocean_21 : decode cX11_ocean 21 = .ok (.ireturn, 1) := by decide +kernel
theorem dX11_ocean_22 : decode cX11_ocean 22 = .ok (.aload_n 0, 1) := by decide +kernel
theorem dX11_ocean_23 : decode cX11_ocean 23 = .ok (.getfield 12, 3) := by decide +kernel
theorem dX11_ocean_26 : decode cX11_ocean 26 = .ok (.invokevirtual 95, 3) := by decide +kernel
theorem dX11_ocean_29 : decode cX11_ocean 29 = .ok (.pop, 1) := by decide +kernel
theorem dX11_ocean_30 : decode cX11_ocean 30 = .ok (.aload_n 0, 1) := by decide +kernel
theorem dX11_ocean_31 : decode cX11_ocean 31 = .ok (.getfield 19, 3) := by decide +kernel
theorem dX11_ocean_34 : decode cX11_ocean 34 = .ok (.invokevirtual 103, 3) := by decide +kernel
theorem dX11_ocean_37 : decode cX11_ocean 37 = .ok (.ireturn, 1) := by decide +kernel
set_option maxRecDepth 20000 in
theorem ggX11_depth_X11_isCell : GoodIn wsX11_depth wsX11_isCell := goodIn_r _ [5, 6, 7, 4, 8] (by decide +kernel) (by decide +kernel)
set_option maxRecDepth 20000 in
theorem gX11_depth_X11_isCell : GoodIn wsX11_depth (va_wsS RX11 106 yX11_isCell wsX11_isCell) := goodIn_app (goodIn_of _ (by decide +kernel)) ggX11_depth_X11_isCell
theorem dX11_depth_0 : decode cX11_depth 0 = .ok (.iload_n 1, 1) := by decide +kernel
theorem dX11_depth_1 : decode cX11_depth 1 = .ok (.invokestatic 106, 3) := by decide +kernel
theorem dX11_depth_4 : decode cX11_depth 4 = .ok (.ifCond .eq 15, 3) := by decide +kernel
theorem dX11_depth_7 : decode cX11_depth 7 = .ok (.aload_n 0, 1) := by decide +kernel
theorem dX11_depth_8 : decode cX11_depth 8 = .ok (.getfield 19, 3) := by decide +kernel
theorem dX11_depth_11 : decode cX11_depth 11 = .ok (.getfield 110, 3) := by decide +kernel
theorem dX11_depth_14 : decode cX11_depth 14 = .ok (.iload_n 1, 1) := by decide +kernel
theorem dX11_depth_15 : decode cX11_depth 15 = .ok (.iaload, 1) := by decide +kernel
theorem dX11_depth_16 : decode cX11_depth 16 = .ok (.goto 4, 3) := by decide +kernel
theorem dX11_depth_19 : decode cX11_depth 19 = .ok (.iconst (-1), 1) := by decide +kernel
theorem dX11_depth_20 : decode cX11_depth 20 = .ok (.ireturn, 1) := by decide +kernel
set_option maxRecDepth 20000 in
theorem ggX11_tune_X11_within : GoodIn wsX11_tune wsX11_within := goodIn_r _ [6] (by decide +kernel) (by decide +kernel)
set_option maxRecDepth 20000 in
theorem gX11_tune_X11_within : GoodIn wsX11_tune (va_wsS RX11 84 yX11_within wsX11_within) := goodIn_app (goodIn_of _ (by decide +kernel)) ggX11_tune_X11_within
set_option maxRecDepth 20000 in
theorem ggX11_tune_X11_isYear : GoodIn wsX11_tune wsX11_isYear := goodIn_r _ [9, 3, 4, 5, 6] (by decide +kernel) (by decide +kernel)
set_option maxRecDepth 20000 in
theorem gX11_tune_X11_isYear : GoodIn wsX11_tune (va_wsS RX11 120 yX11_isYear wsX11_isYear) := goodIn_app (goodIn_of _ (by decide +kernel)) ggX11_tune_X11_isYear
theorem dX11_tune_0 : decode cX11_tune 0 = .ok (.iconst (-1), 1) := by decide +kernel
theorem dX11_tune_1 : decode cX11_tune 1 = .ok (.istore_n 3, 1) := by decide +kernel
theorem dX11_tune_2 : decode cX11_tune 2 = .ok (.iload_n 1, 1) := by decide +kernel
theorem dX11_tune_3 : decode cX11_tune 3 = .ok (.ifCond .ne 32, 3) := by decide +kernel
theorem dX11_tune_6 : decode cX11_tune 6 = .ok (.iload_n 2, 1) := by decide +kernel
theorem dX11_tune_7 : decode cX11_tune 7 = .ok (.iconst 1, 1) := by decide +kernel
theorem dX11_tune_8 : decode cX11_tune 8 = .ok (.bipush 9, 2) := by decide +kernel
theorem dX11_tune_10 : decode cX11_tune 10 = .ok (.invokestatic 84, 3) := by decide +kernel
theorem dX11_tune_13 : decode cX11_tune 13 = .ok (.ifCond .eq 22, 3) := by decide +kernel
theorem dX11_tune_16 : decode cX11_tune 16 = .ok (.aload_n 0, 1) := by decide +kernel
theorem dX11_tune_17 : decode cX11_tune 17 = .ok (.getfield 19, 3) := by decide +kernel
theorem dX11_tune_20 : decode cX11_tune 20 = .ok (.getfield 114, 3) := by decide +kernel
theorem dX11_tune_23 : decode cX11_tune 23 = .ok (.istore_n 3, 1) := by decide +kernel
theorem dX11_tune_24 : decode cX11_tune 24 = .ok (.aload_n 0, 1) := by decide +kernel
theorem dX11_tune_25 : decode cX11_tune 25 = .ok (.getfield 19, 3) := by decide +kernel
theorem dX11_tune_28 : decode cX11_tune 28 = .ok (.iload_n 2, 1) := by decide +kernel
theorem dX11_tune_29 : decode cX11_tune 29 = .ok (.putfield 114, 3) := by decide +kernel
theorem dX11_tune_32 : decode cX11_tune 32 = .ok (.goto 60, 3) := by decide +kernel
theorem dX11_tune_35 : decode cX11_tune 35 = .ok (.iload_n 1, 1) := by decide +kernel
theorem dX11_tune_36 : decode cX11_tune 36 = .ok (.iconst 1, 1) := by decide +kernel
theorem dX11_tune_37 : decode cX11_tune 37 = .ok (.if_icmp .ne 33, 3) := by decide +kernel
theorem dX11_tune_40 : decode cX11_tune 40 = .ok (.iload_n 2, 1) := by decide +kernel
theorem dX11_tune_41 : decode cX11_tune 41 = .ok (.iconst 1, 1) := by decide +kernel
theorem dX11_tune_42 : decode cX11_tune 42 = .ok (.sipush 999, 3) := by decide +kernel
theorem dX11_tune_45 : decode cX11_tune 45 = .ok (.invokestatic 84, 3) := by decide +kernel
theorem dX11_tune_48 : decode cX11_tune 48 = .ok (.ifCond .eq 22, 3) := by decide +kernel
theorem dX11_tune_51 : decode cX11_tune 51 = .ok (.aload_n 0, 1) := by decide +kernel
theorem dX11_tune_52 : decode cX11_tune 52 = .ok (.getfield 19, 3) := by decide +kernel
theorem dX11_tune_55 : decode cX11_tune 55 = .ok (.getfield 117, 3) := by decide +kernel
theorem dX11_tune_58 : decode cX11_tune 58 = .ok (.istore_n 3, 1) := by decide +kernel
theorem dX11_tune_59 : decode cX11_tune 59 = .ok (.aload_n 0, 1) := by decide +kernel
theorem dX11_tune_60 : decode cX11_tune 60 = .ok (.getfield 19, 3) := by decide +kernel
theorem dX11_tune_63 : decode cX11_tune 63 = .ok (.iload_n 2, 1) := by decide +kernel
theorem dX11_tune_64 : decode cX11_tune 64 = .ok (.putfield 117, 3) := by decide +kernel
theorem dX11_tune_67 : decode cX11_tune 67 = .ok (.goto 25, 3) := by decide +kernel
theorem dX11_tune_70 : decode cX11_tune 70 = .ok (.iload_n 1, 1) := by decide +kernel
theorem dX11_tune_71 : decode cX11_tune 71 = .ok (.iconst 2, 1) := by decide +kernel
theorem dX11_tune_72 : decode cX11_tune 72 = .ok (.if_icmp .ne 20, 3) := by decide +kernel
theorem dX11_tune_75 : decode cX11_tune 75 = .ok (.iload_n 2, 1) := by decide +kernel
theorem dX11_tune_76 : decode cX11_tune 76 = .ok (.invokestatic 120, 3) := by decide +kernel
theorem dX11_tune_79 : decode cX11_tune 79 = .ok (.ifCond .eq 13, 3) := by decide +kernel
theorem dX11_tune_82 : decode cX11_tune 82 = .ok (.aload_n 0, 1) := by decide +kernel
theorem dX11_tune_83 : decode cX11_tune 83 = .ok (.getfield 80, 3) := by decide +kernel
theorem dX11_tune_86 : decode cX11_tune 86 = .ok (.istore_n 3, 1) := by decide +kernel
theorem dX11_tune_87 : decode cX11_tune 87 = .ok (.aload_n 0, 1) := by decide +kernel
theorem dX11_tune_88 : decode cX11_tune 88 = .ok (.iload_n 2, 1) := by decide +kernel
theorem dX11_tune_89 : decode cX11_tune 89 = .ok (.putfield 80, 3) := by decide +kernel
theorem dX11_tune_92 : decode cX11_tune 92 = .ok (.iload_n 3, 1) := by decide +kernel
theorem dX11_tune_93 : decode cX11_tune 93 = .ok (.ireturn, 1) := by decide +kernel
set_option maxRecDepth 20000 in
theorem ggX11_time_X11_isCell : GoodIn wsX11_time wsX11_isCell := goodIn_r _ [5, 6, 7, 4, 8] (by decide +kernel) (by decide +kernel)
set_option maxRecDepth 20000 in
theorem gX11_time_X11_isCell : GoodIn wsX11_time (va_wsS RX11 106 yX11_isCell wsX11_isCell) := goodIn_app (goodIn_of _ (by decide +kernel)) ggX11_time_X11_isCell
set_option maxRecDepth 20000 in
theorem ggX11_time_X4_travel : GoodIn wsX11_time wsX4_travel := goodIn_r _ [13, 14, 15, 16, 17, 12, 18, 19, 20, 21, 22, 23, 24, 25, 26, 27, 28, 40, 41, 42, 43, 44] (by decide +kernel) (by decide +kernel)
set_option maxRecDepth 20000 in
theorem gX11_time_X4_travel : GoodIn wsX11_time (wsV RX11 123 RX4 yX4_travel wsX4_travel) := goodIn_app (goodIn_of _ (by decide +kernel)) ggX11_time_X4_travel
theorem dX11_time_0 : decode cX11_time 0 = .ok (.iload_n 1, 1) := by decide +kernel
theorem dX11_time_1 : decode cX11_time 1 = .ok (.invokestatic 106, 3) := by decide +kernel
theorem dX11_time_4 : decode cX11_time 4 = .ok (.ifCond .eq 10, 3) := by decide +kernel
theorem dX11_time_7 : decode cX11_time 7 = .ok (.iload_n 2, 1) := by decide +kernel
theorem dX11_time_8 : decode cX11_time 8 = .ok (.invokestatic 106, 3) := by decide +kernel
theorem dX11_time_11 : decode cX11_time 11 = .ok (.ifCond .ne 5, 3) := by decide +kernel
theorem dX11_time_14 : decode cX11_time 14 = .ok (.iconst (-1), 1) := by decide +kernel
theorem dX11_time_15 : decode cX11_time 15 = .ok (.ireturn, 1) := by decide +kernel
theorem dX11_time_16 : decode cX11_time 16 = .ok (.aload_n 0, 1) := by decide +kernel
theorem dX11_time_17 : decode cX11_time 17 = .ok (.getfield 19, 3) := by decide +kernel
theorem dX11_time_20 : decode cX11_time 20 = .ok (.iload_n 1, 1) := by decide +kernel
theorem dX11_time_21 : decode cX11_time 21 = .ok (.iload_n 2, 1) := by decide +kernel
theorem dX11_time_22 : decode cX11_time 22 = .ok (.invokevirtual 123, 3) := by decide +kernel
theorem dX11_time_25 : decode cX11_time 25 = .ok (.ireturn, 1) := by decide +kernel
set_option maxRecDepth 20000 in
theorem ggX11_height_X11_isCell : GoodIn wsX11_height wsX11_isCell := goodIn_r _ [5, 6, 7, 4, 8] (by decide +kernel) (by decide +kernel)
set_option maxRecDepth 20000 in
theorem gX11_height_X11_isCell : GoodIn wsX11_height (va_wsS RX11 106 yX11_isCell wsX11_isCell) := goodIn_app (goodIn_of _ (by decide +kernel)) ggX11_height_X11_isCell
set_option maxRecDepth 20000 in
theorem ggX11_height_X11_isSize : GoodIn wsX11_height wsX11_isSize := goodIn_r _ [11, 6, 7, 4, 8] (by decide +kernel) (by decide +kernel)
set_option maxRecDepth 20000 in
theorem gX11_height_X11_isSize : GoodIn wsX11_height (va_wsS RX11 127 yX11_isSize wsX11_isSize) := goodIn_app (goodIn_of _ (by decide +kernel)) ggX11_height_X11_isSize
set_option maxRecDepth 20000 in
theorem ggX11_height_X4_travel : GoodIn wsX11_height wsX4_travel := goodIn_r _ [16, 17, 18, 19, 20, 15, 21, 22, 23, 24, 25, 26, 27, 28, 29, 30, 31, 48, 49, 50, 51, 52] (by decide +kernel) (by decide +kernel)
set_option maxRecDepth 20000 in
theorem gX11_height_X4_travel : GoodIn wsX11_height (wsV RX11 123 RX4 yX4_travel wsX4_travel) := goodIn_app (goodIn_of _ (by decide +kernel)) ggX11_height_X4_travel
set_option maxRecDepth 20000 in
theorem ggX11_height_X4_swell : GoodIn wsX11_height wsX4_swell := goodIn_r _ [35, 36, 22, 48, 49, 50, 51, 52] (by decide +kernel) (by decide +kernel)
set_option maxRecDepth 20000 in
theorem gX11_height_X4_swell : GoodIn wsX11_height (wsV RX11 130 RX4 yX4_swell wsX4_swell) := goodIn_app (goodIn_of _ (by decide +kernel)) ggX11_height_X4_swell
theorem dX11_height_0 : decode cX11_height 0 = .ok (.iload_n 1, 1) := by decide +kernel
theorem dX11_height_1 : decode cX11_height 1 = .ok (.invokestatic 106, 3) := by decide +kernel
theorem dX11_height_4 : decode cX11_height 4 = .ok (.ifCond .eq 17, 3) := by decide +kernel
theorem dX11_height_7 : decode cX11_height 7 = .ok (.iload_n 2, 1) := by decide +kernel
theorem dX11_height_8 : decode cX11_height 8 = .ok (.invokestatic 127, 3) := by decide +kernel
theorem dX11_height_11 : decode cX11_height 11 = .ok (.ifCond .eq 10, 3) := by decide +kernel
theorem dX11_height_14 : decode cX11_height 14 = .ok (.iload_n 3, 1) := by decide +kernel
theorem dX11_height_15 : decode cX11_height 15 = .ok (.invokestatic 106, 3) := by decide +kernel
theorem dX11_height_18 : decode cX11_height 18 = .ok (.ifCond .ne 5, 3) := by decide +kernel
theorem dX11_height_21 : decode cX11_height 21 = .ok (.iconst (-1), 1) := by decide +kernel
theorem dX11_height_22 : decode cX11_height 22 = .ok (.ireturn, 1) := by decide +kernel
theorem dX11_height_23 : decode cX11_height 23 = .ok (.aload_n 0, 1) := by decide +kernel
theorem dX11_height_24 : decode cX11_height 24 = .ok (.getfield 19, 3) := by decide +kernel
theorem dX11_height_27 : decode cX11_height 27 = .ok (.aload_n 0, 1) := by decide +kernel
theorem dX11_height_28 : decode cX11_height 28 = .ok (.getfield 19, 3) := by decide +kernel
theorem dX11_height_31 : decode cX11_height 31 = .ok (.iload_n 1, 1) := by decide +kernel
theorem dX11_height_32 : decode cX11_height 32 = .ok (.iload_n 3, 1) := by decide +kernel
theorem dX11_height_33 : decode cX11_height 33 = .ok (.invokevirtual 123, 3) := by decide +kernel
theorem dX11_height_36 : decode cX11_height 36 = .ok (.iload_n 2, 1) := by decide +kernel
theorem dX11_height_37 : decode cX11_height 37 = .ok (.iload_n 3, 1) := by decide +kernel
theorem dX11_height_38 : decode cX11_height 38 = .ok (.invokevirtual 130, 3) := by decide +kernel
theorem dX11_height_41 : decode cX11_height 41 = .ok (.ireturn, 1) := by decide +kernel
set_option maxRecDepth 20000 in
theorem ggX11_book_X4_isSea : GoodIn wsX11_book wsX4_isSea := goodIn_r _ [7, 8, 9, 10, 11, 12, 13, 14, 52, 53, 54, 55, 56] (by decide +kernel) (by decide +kernel)
set_option maxRecDepth 20000 in
theorem gX11_book_X4_isSea : GoodIn wsX11_book (wsV RX11 134 RX4 yX4_isSea wsX4_isSea) := goodIn_app (goodIn_of _ (by decide +kernel)) ggX11_book_X4_isSea
set_option maxRecDepth 20000 in
theorem ggX11_book_X11_isSpan : GoodIn wsX11_book wsX11_isSpan := goodIn_r _ [17] (by decide +kernel) (by decide +kernel)
set_option maxRecDepth 20000 in
theorem gX11_book_X11_isSpan : GoodIn wsX11_book (va_wsS RX11 137 yX11_isSpan wsX11_isSpan) := goodIn_app (goodIn_of _ (by decide +kernel)) ggX11_book_X11_isSpan
set_option maxRecDepth 20000 in
theorem ggX11_book_X0_add : GoodIn wsX11_book wsX0_add := goodIn_r _ [22, 23, 24, 25, 26, 27, 28, 46, 47, 48, 49, 50, 51] (by decide +kernel) (by decide +kernel)
set_option maxRecDepth 20000 in
theorem gX11_book_X0_add : GoodIn wsX11_book (wsV RX11 146 RX0 yX0_add wsX0_add) := goodIn_app (goodIn_of _ (by decide +kernel)) ggX11_book_X0_add
theorem dX11_book_0 : decode cX11_book 0 = .ok (.aload_n 0, 1) := by decide +kernel
theorem dX11_book_1 : decode cX11_book 1 = .ok (.getfield 19, 3) := by decide +kernel
theorem dX11_book_4 : decode cX11_book 4 = .ok (.iload_n 1, 1) := by decide +kernel
theorem dX11_book_5 : decode cX11_book 5 = .ok (.invokevirtual 134, 3) := by decide +kernel
theorem dX11_book_8 : decode cX11_book 8 = .ok (.ifCond .ne 5, 3) := by decide +kernel
theorem dX11_book_11 : decode cX11_book 11 = .ok (.iconst (-1), 1) := by decide +kernel
theorem dX11_book_12 : decode cX11_book 12 = .ok (.ireturn, 1) := by decide +kernel
theorem dX11_book_13 : decode cX11_book 13 = .ok (.iload_n 2, 1) := by decide +kernel
theorem dX11_book_14 : decode cX11_book 14 = .ok (.iload_n 3, 1) := by decide +kernel
theorem dX11_book_15 : decode cX11_book 15 = .ok (.sipush (-9999), 3) := by decide +kernel
theorem dX11_book_18 : decode cX11_book 18 = .ok (.sipush 9999, 3) := by decide +kernel
theorem dX11_book_21 : decode cX11_book 21 = .ok (.invokestatic 137, 3) := by decide +kernel
theorem dX11_book_24 : decode cX11_book 24 = .ok (.ifCond .ne 5, 3) := by decide +kernel
theorem dX11_book_27 : decode cX11_book 27 = .ok (.iconst (-1), 1) := by decide +kernel
theorem dX11_book_28 : decode cX11_book 28 = .ok (.ireturn, 1) := by decide +kernel
theorem dX11_book_29 : decode cX11_book 29 = .ok (.iload 4, 2) := by decide +kernel
theorem dX11_book_31 : decode cX11_book 31 = .ok (.iload 5, 2) := by decide +kernel
theorem dX11_book_33 : decode cX11_book 33 = .ok (.iconst 0, 1) := by decide +kernel
theorem dX11_book_34 : decode cX11_book 34 = .ok (.sipush 999, 3) := by decide +kernel
theorem dX11_book_37 : decode cX11_book 37 = .ok (.invokestatic 137, 3) := by decide +kernel
theorem dX11_book_40 : decode cX11_book 40 = .ok (.ifCond .ne 5, 3) := by decide +kernel
theorem dX11_book_43 : decode cX11_book 43 = .ok (.iconst (-1), 1) := by decide +kernel
theorem dX11_book_44 : decode cX11_book 44 = .ok (.ireturn, 1) := by decide +kernel
theorem dX11_book_45 : decode cX11_book 45 = .ok (.aload_n 0, 1) := by decide +kernel
theorem dX11_book_46 : decode cX11_book 46 = .ok (.getfield 33, 3) := by decide +kernel
theorem dX11_book_49 : decode cX11_book 49 = .ok (.getfield 43, 3) := by decide +kernel
theorem dX11_book_52 : decode cX11_book 52 = .ok (.getfield 141, 3) := by decide +kernel
theorem dX11_book_55 : decode cX11_book 55 = .ok (.bipush 6, 2) := by decide +kernel
theorem dX11_book_57 : decode cX11_book 57 = .ok (.if_icmp .lt 6, 3) := by decide +kernel
theorem dX11_book_60 : decode cX11_book 60 = .ok (.bipush (-3), 2) := by decide +kernel
theorem dX11_book_62 : decode cX11_book 62 = .ok (.ireturn, 1) := by decide +kernel
theorem dX11_book_63 : decode cX11_book 63 = .ok (.aload_n 0, 1) := by decide +kernel
theorem dX11_book_64 : decode cX11_book 64 = .ok (.getfield 33, 3) := by decide +kernel
theorem dX11_book_67 : decode cX11_book 67 = .ok (.getfield 43, 3) := by decide +kernel
theorem dX11_book_70 : decode cX11_book 70 = .ok (.iload_n 1, 1) := by decide +kernel
theorem dX11_book_71 : decode cX11_book 71 = .ok (.iload_n 2, 1) := by decide +kernel
theorem dX11_book_72 : decode cX11_book 72 = .ok (.iload_n 3, 1) := by decide +kernel
theorem dX11_book_73 : decode cX11_book 73 = .ok (.iload 4, 2) := by decide +kernel
theorem dX11_book_75 : decode cX11_book 75 = .ok (.iload 5, 2) := by decide +kernel
theorem dX11_book_77 : decode cX11_book 77 = .ok (.invokevirtual 146, 3) := by decide +kernel
theorem dX11_book_80 : decode cX11_book 80 = .ok (.ireturn, 1) := by decide +kernel
set_option maxRecDepth 20000 in
theorem ggX11_begins_X4_isSea : GoodIn wsX11_begins wsX4_isSea := goodIn_r _ [8, 9, 10, 11, 12, 13, 14, 15, 99, 100, 101, 102, 103] (by decide +kernel) (by decide +kernel)
set_option maxRecDepth 20000 in
theorem gX11_begins_X4_isSea : GoodIn wsX11_begins (wsV RX11 134 RX4 yX4_isSea wsX4_isSea) := goodIn_app (goodIn_of _ (by decide +kernel)) ggX11_begins_X4_isSea
set_option maxRecDepth 20000 in
theorem ggX11_begins_X11_isSize : GoodIn wsX11_begins wsX11_isSize := goodIn_r _ [18, 13, 14, 11, 15] (by decide +kernel) (by decide +kernel)
set_option maxRecDepth 20000 in
theorem gX11_begins_X11_isSize : GoodIn wsX11_begins (va_wsS RX11 127 yX11_isSize wsX11_isSize) := goodIn_app (goodIn_of _ (by decide +kernel)) ggX11_begins_X11_isSize
set_option maxRecDepth 20000 in
theorem ggX11_begins_X5_measure : GoodIn wsX11_begins wsX5_measure := goodIn_r _ [23, 24, 25, 26, 27, 28, 29, 7, 30, 9, 31, 32, 33, 34, 35, 36, 37, 38, 39, 104, 105, 106, 93, 94, 95, 96, 97, 98, 99, 100, 101, 102, 103] (by decide +kernel) (by decide +kernel)
set_option maxRecDepth 20000 in
theorem gX11_begins_X5_measure : GoodIn wsX11_begins (wsV RX11 150 RX5 yX5_measure wsX5_measure) := goodIn_app (goodIn_of _ (by decide +kernel)) ggX11_begins_X5_measure
set_option maxRecDepth 20000 in
theorem ggX11_begins_X5_beginsOf : GoodIn wsX11_begins wsX5_beginsOf := goodIn_r _ [43, 44, 45, 46, 22, 47, 24, 25, 26, 48, 49, 50, 7, 51, 52, 9, 53, 54, 55, 56, 57, 58, 59, 60, 61, 62, 63, 64, 65, 66, 67, 68, 69, 70, 71, 72, 73, 74, 75, 104, 105, 106, 93, 94, 95, 96, 97, 98, 99, 100, 101, 102, 103] (by decide +kernel) (by decide +kernel)
set_option maxRecDepth 20000 in
theorem gX11_begins_X5_beginsOf : GoodIn wsX11_begins (wsV RX11 153 RX5 yX5_beginsOf wsX5_beginsOf) := goodIn_app (goodIn_of _ (by decide +kernel)) ggX11_begins_X5_beginsOf
theorem dX11_begins_0 : decode cX11_begins 0 = .ok (.aload_n 0, 1) := by decide +kernel
theorem dX11_begins_1 : decode cX11_begins 1 = .ok (.getfield 19, 3) := by decide +kernel
theorem dX11_begins_4 : decode cX11_begins 4 = .ok (.iload_n 1, 1) := by decide +kernel
theorem dX11_begins_5 : decode cX11_begins 5 = .ok (.invokevirtual 134, 3) := by decide +kernel
theorem dX11_begins_8 : decode cX11_begins 8 = .ok (.ifCond .eq 10, 3) := by decide +kernel
theorem dX11_begins_11 : decode cX11_begins 11 = .ok (.iload_n 2, 1) := by decide +kernel
theorem dX11_begins_12 : decode cX11_begins 12 = .ok (.invokestatic 127, 3) := by decide +kernel
theorem dX11_begins_15 : decode cX11_begins 15 = .ok (.ifCond .ne 5, 3) := by decide +kernel
theorem dX11_begins_18 : decode cX11_begins 18 = .ok (.iconst (-1), 1) := by decide +kernel
theorem dX11_begins_19 : decode cX11_begins 19 = .ok (.ireturn, 1) := by decide +kernel
theorem dX11_begins_20 : decode cX11_begins 20 = .ok (.aload_n 0, 1) := by decide +kernel
theorem dX11_begins_21 : decode cX11_begins 21 = .ok (.getfield 33, 3) := by decide +kernel
theorem dX11_begins_24 : decode cX11_begins 24 = .ok (.getfield 43, 3) := by decide +kernel
theorem dX11_begins_27 : decode cX11_begins 27 = .ok (.getfield 141, 3) := by decide +kernel
theorem dX11_begins_30 : decode cX11_begins 30 = .ok (.ifCond .ne 6, 3) := by decide +kernel
theorem dX11_begins_33 : decode cX11_begins 33 = .ok (.bipush (-9), 2) := by decide +kernel
theorem dX11_begins_35 : decode cX11_begins 35 = .ok (.ireturn, 1) := by decide +kernel
theorem dX11_begins_36 : decode cX11_begins 36 = .ok (.aload_n 0, 1) := by decide +kernel
theorem dX11_begins_37 : decode cX11_begins 37 = .ok (.getfield 50, 3) := by decide +kernel
theorem dX11_begins_40 : decode cX11_begins 40 = .ok (.invokevirtual 150, 3) := by decide +kernel
theorem dX11_begins_43 : decode cX11_begins 43 = .ok (.aload_n 0, 1) := by decide +kernel
theorem dX11_begins_44 : decode cX11_begins 44 = .ok (.getfield 50, 3) := by decide +kernel
theorem dX11_begins_47 : decode cX11_begins 47 = .ok (.iload_n 1, 1) := by decide +kernel
theorem dX11_begins_48 : decode cX11_begins 48 = .ok (.iload_n 2, 1) := by decide +kernel
theorem dX11_begins_49 : decode cX11_begins 49 = .ok (.invokevirtual 153, 3) := by decide +kernel
theorem dX11_begins_52 : decode cX11_begins 52 = .ok (.ireturn, 1) := by decide +kernel
set_option maxRecDepth 20000 in
theorem ggX11_ways_X4_isSea : GoodIn wsX11_ways wsX4_isSea := goodIn_r _ [8, 9, 10, 11, 12, 13, 14, 15, 101, 102, 103, 104, 105] (by decide +kernel) (by decide +kernel)
set_option maxRecDepth 20000 in
theorem gX11_ways_X4_isSea : GoodIn wsX11_ways (wsV RX11 134 RX4 yX4_isSea wsX4_isSea) := goodIn_app (goodIn_of _ (by decide +kernel)) ggX11_ways_X4_isSea
set_option maxRecDepth 20000 in
theorem ggX11_ways_X5_measure : GoodIn wsX11_ways wsX5_measure := goodIn_r _ [20, 21, 22, 23, 24, 25, 26, 7, 27, 9, 28, 29, 30, 31, 32, 33, 34, 35, 36, 106, 107, 108, 95, 96, 97, 98, 99, 100, 101, 102, 103, 104, 105] (by decide +kernel) (by decide +kernel)
set_option maxRecDepth 20000 in
theorem gX11_ways_X5_measure : GoodIn wsX11_ways (wsV RX11 150 RX5 yX5_measure wsX5_measure) := goodIn_app (goodIn_of _ (by decide +kernel)) ggX11_ways_X5_measure
set_option maxRecDepth 20000 in
theorem ggX11_ways_X5_allWays : GoodIn wsX11_ways wsX5_allWays := goodIn_r _ [40, 41, 42, 43, 19, 44, 45, 46, 47, 48, 49, 50, 51, 52, 53, 54, 55, 56, 21, 23, 57, 58, 59, 60, 61, 62, 63, 64, 65, 66, 67, 68, 69, 70, 71, 22, 72, 73, 74, 7, 75, 76, 9, 106, 107, 108, 95, 96, 97, 98, 99, 100, 101, 102, 103, 104, 105] (by decide +kernel) (by decide +kernel)
set_option maxRecDepth 20000 in
theorem gX11_ways_X5_allWays : GoodIn wsX11_ways (wsV RX11 156 RX5 yX5_allWays wsX5_allWays) := goodIn_app (goodIn_of _ (by decide +kernel)) ggX11_ways_X5_allWays
set_option maxRecDepth 20000 in
theorem ggX11_ways_X5_waysOf : GoodIn wsX11_ways wsX5_waysOf := goodIn_r _ [44, 45, 46, 47, 19, 48, 49, 50, 51, 52, 53, 54, 55, 56, 21, 23, 57, 58, 59, 60, 61, 62, 63, 64, 65, 66, 67, 68, 69, 70, 71, 22, 72, 73, 74, 7, 75, 76, 9, 106, 107, 108, 95, 96, 97, 98, 99, 100, 101, 102, 103, 104, 105] (by decide +kernel) (by decide +kernel)
set_option maxRecDepth 20000 in
theorem gX11_ways_X5_waysOf : GoodIn wsX11_ways (wsV RX11 159 RX5 yX5_waysOf wsX5_waysOf) := goodIn_app (goodIn_of _ (by decide +kernel)) ggX11_ways_X5_waysOf
theorem dX11_ways_0 : decode cX11_ways 0 = .ok (.iload_n 1, 1) := by decide +kernel
theorem dX11_ways_1 : decode cX11_ways 1 = .ok (.iconst (-1), 1) := by decide +kernel
theorem dX11_ways_2 : decode cX11_ways 2 = .ok (.if_icmp .eq 16, 3) := by decide +kernel
theorem dX11_ways_5 : decode cX11_ways 5 = .ok (.aload_n 0, 1) := by decide +kernel
theorem dX11_ways_6 : decode cX11_ways 6 = .ok (.getfield 19, 3) := by decide +kernel
theorem dX11_ways_9 : decode cX11_ways 9 = .ok (.iload_n 1, 1) := by decide +kernel
theorem dX11_ways_10 : decode cX11_ways 10 = .ok (.invokevirtual 134, 3) := by decide +kernel
theorem dX11_ways_13 : decode cX11_ways 13 = .ok (.ifCond .ne 5, 3) := by decide +kernel
theorem dX11_ways_16 : decode cX11_ways 16 = .ok (.iconst (-1), 1) := by decide +kernel
theorem dX11_ways_17 : decode cX11_ways 17 = .ok (.ireturn, 1) := by decide +kernel
theorem dX11_ways_18 : decode cX11_ways 18 = .ok (.aload_n 0, 1) := by decide +kernel
theorem dX11_ways_19 : decode cX11_ways 19 = .ok (.getfield 33, 3) := by decide +kernel
theorem dX11_ways_22 : decode cX11_ways 22 = .ok (.getfield 43, 3) := by decide +kernel
theorem dX11_ways_25 : decode cX11_ways 25 = .ok (.getfield 141, 3) := by decide +kernel
theorem dX11_ways_28 : decode cX11_ways 28 = .ok (.ifCond .ne 6, 3) := by decide +kernel
theorem dX11_ways_31 : decode cX11_ways 31 = .ok (.bipush (-9), 2) := by decide +kernel
theorem dX11_ways_33 : decode cX11_ways 33 = .ok (.ireturn, 1) := by decide +kernel
theorem dX11_ways_34 : decode cX11_ways 34 = .ok (.aload_n 0, 1) := by decide +kernel
theorem dX11_ways_35 : decode cX11_ways 35 = .ok (.getfield 50, 3) := by decide +kernel
theorem dX11_ways_38 : decode cX11_ways 38 = .ok (.invokevirtual 150, 3) := by decide +kernel
theorem dX11_ways_41 : decode cX11_ways 41 = .ok (.iload_n 1, 1) := by decide +kernel
theorem dX11_ways_42 : decode cX11_ways 42 = .ok (.iconst (-1), 1) := by decide +kernel
theorem dX11_ways_43 : decode cX11_ways 43 = .ok (.if_icmp .ne 13, 3) := by decide +kernel
theorem dX11_ways_46 : decode cX11_ways 46 = .ok (.aload_n 0, 1) := by decide +kernel
theorem dX11_ways_47 : decode cX11_ways 47 = .ok (.getfield 50, 3) := by decide +kernel
theorem dX11_ways_50 : decode cX11_ways 50 = .ok (.invokevirtual 156, 3) := by decide +kernel
theorem dX11_ways_53 : decode cX11_ways 53 = .ok (.goto 11, 3) := by decide +kernel
theorem dX11_ways_56 : decode cX11_ways 56 = .ok (.aload_n 0, 1) := by decide +kernel
theorem dX11_ways_57 : decode cX11_ways 57 = .ok (.getfield 50, 3) := by decide +kernel
theorem dX11_ways_60 : decode cX11_ways 60 = .ok (.iload_n 1, 1) := by decide +kernel
theorem dX11_ways_61 : decode cX11_ways 61 = .ok (.invokevirtual 159, 3) := by decide +kernel
theorem dX11_ways_64 : decode cX11_ways 64 = .ok (.ireturn, 1) := by decide +kernel
set_option maxRecDepth 20000 in
theorem ggX11_whence_X11_within : GoodIn wsX11_whence wsX11_within := goodIn_r _ [7] (by decide +kernel) (by decide +kernel)
set_option maxRecDepth 20000 in
theorem gX11_whence_X11_within : GoodIn wsX11_whence (va_wsS RX11 84 yX11_within wsX11_within) := goodIn_app (goodIn_of _ (by decide +kernel)) ggX11_whence_X11_within
set_option maxRecDepth 20000 in
theorem ggX11_whence_X5_measure : GoodIn wsX11_whence wsX5_measure := goodIn_r _ [12, 13, 14, 15, 16, 17, 18, 19, 20, 21, 22, 23, 24, 25, 26, 27, 28, 29, 30, 105, 106, 107, 99, 100, 101, 102, 103, 104, 108, 109, 110, 111, 112] (by decide +kernel) (by decide +kernel)
set_option maxRecDepth 20000 in
theorem gX11_whence_X5_measure : GoodIn wsX11_whence (wsV RX11 150 RX5 yX5_measure wsX5_measure) := goodIn_app (goodIn_of _ (by decide +kernel)) ggX11_whence_X5_measure
set_option maxRecDepth 20000 in
theorem ggX11_whence_X5_likeliestCell : GoodIn wsX11_whence wsX5_likeliestCell := goodIn_r _ [34, 35, 36, 37, 11, 38, 39, 40, 41, 42, 43, 44, 45, 46, 47, 48, 49, 50, 13, 15, 51, 52, 53, 54, 55, 56, 57, 58, 59, 60, 61, 62, 63, 64, 65, 14, 66, 67, 68, 19, 69, 70, 21, 105, 106, 107, 99, 100, 101, 102, 103, 104, 108, 109, 110, 111, 112] (by decide +kernel) (by decide +kernel)
set_option maxRecDepth 20000 in
theorem gX11_whence_X5_likeliestCell : GoodIn wsX11_whence (wsV RX11 164 RX5 yX5_likeliestCell wsX5_likeliestCell) := goodIn_app (goodIn_of _ (by decide +kernel)) ggX11_whence_X5_likeliestCell
set_option maxRecDepth 20000 in
theorem ggX11_whence_X5_leastSize : GoodIn wsX11_whence wsX5_leastSize := goodIn_r _ [74, 75, 62, 63, 64, 11, 65, 13, 14, 15, 66, 67, 68, 19, 69, 70, 21, 105, 106, 107, 99, 100, 101, 102, 103, 104, 108, 109, 110, 111, 112] (by decide +kernel) (by decide +kernel)
set_option maxRecDepth 20000 in
theorem gX11_whence_X5_leastSize : GoodIn wsX11_whence (wsV RX11 167 RX5 yX5_leastSize wsX5_leastSize) := goodIn_app (goodIn_of _ (by decide +kernel)) ggX11_whence_X5_leastSize
set_option maxRecDepth 20000 in
theorem ggX11_whence_X5_greatestSize : GoodIn wsX11_whence wsX5_greatestSize := goodIn_r _ [79, 75, 62, 63, 64, 11, 65, 13, 14, 15, 66, 67, 68, 19, 69, 70, 21, 105, 106, 107, 99, 100, 101, 102, 103, 104, 108, 109, 110, 111, 112] (by decide +kernel) (by decide +kernel)
set_option maxRecDepth 20000 in
theorem gX11_whence_X5_greatestSize : GoodIn wsX11_whence (wsV RX11 170 RX5 yX5_greatestSize wsX5_greatestSize) := goodIn_app (goodIn_of _ (by decide +kernel)) ggX11_whence_X5_greatestSize
set_option maxRecDepth 20000 in
theorem ggX11_whence_X5_earliestBegin : GoodIn wsX11_whence wsX5_earliestBegin := goodIn_r _ [61, 13, 15, 43, 44, 45, 46, 105, 106, 107, 99, 100, 101, 102, 103, 104] (by decide +kernel) (by decide +kernel)
set_option maxRecDepth 20000 in
theorem gX11_whence_X5_earliestBegin : GoodIn wsX11_whence (wsV RX11 173 RX5 yX5_earliestBegin wsX5_earliestBegin) := goodIn_app (goodIn_of _ (by decide +kernel)) ggX11_whence_X5_earliestBegin
set_option maxRecDepth 20000 in
theorem ggX11_whence_X5_latestBegin : GoodIn wsX11_whence wsX5_latestBegin := goodIn_r _ [54, 13, 15, 55, 56, 45, 57, 105, 106, 107, 99, 100, 101, 102, 103, 104] (by decide +kernel) (by decide +kernel)
set_option maxRecDepth 20000 in
theorem gX11_whence_X5_latestBegin : GoodIn wsX11_whence (wsV RX11 176 RX5 yX5_latestBegin wsX5_latestBegin) := goodIn_app (goodIn_of _ (by decide +kernel)) ggX11_whence_X5_latestBegin
theorem dX11_whence_0 : decode cX11_whence 0 = .ok (.iload_n 1, 1) := by decide +kernel
theorem dX11_whence_1 : decode cX11_whence 1 = .ok (.iconst 0, 1) := by decide +kernel
theorem dX11_whence_2 : decode cX11_whence 2 = .ok (.iconst 4, 1) := by decide +kernel
theorem dX11_whence_3 : decode cX11_whence 3 = .ok (.invokestatic 84, 3) := by decide +kernel
theorem dX11_whence_6 : decode cX11_whence 6 = .ok (.ifCond .eq 16, 3) := by decide +kernel
theorem dX11_whence_9 : decode cX11_whence 9 = .ok (.aload_n 0, 1) := by decide +kernel
theorem dX11_whence_10 : decode cX11_whence 10 = .ok (.getfield 33, 3) := by decide +kernel
theorem dX11_whence_13 : decode cX11_whence 13 = .ok (.getfield 43, 3) := by decide +kernel
theorem dX11_whence_16 : decode cX11_whence 16 = .ok (.getfield 141, 3) := by decide +kernel
theorem dX11_whence_19 : decode cX11_whence 19 = .ok (.ifCond .ne 6, 3) := by decide +kernel
theorem dX11_whence_22 : decode cX11_whence 22 = .ok (.ldc 163, 2) := by decide +kernel
theorem dX11_whence_24 : decode cX11_whence 24 = .ok (.ireturn, 1) := by decide +kernel
theorem dX11_whence_25 : decode cX11_whence 25 = .ok (.aload_n 0, 1) := by decide +kernel
theorem dX11_whence_26 : decode cX11_whence 26 = .ok (.getfield 50, 3) := by decide +kernel
theorem dX11_whence_29 : decode cX11_whence 29 = .ok (.invokevirtual 150, 3) := by decide +kernel
theorem dX11_whence_32 : decode cX11_whence 32 = .ok (.aload_n 0, 1) := by decide +kernel
theorem dX11_whence_33 : decode cX11_whence 33 = .ok (.getfield 50, 3) := by decide +kernel
theorem dX11_whence_36 : decode cX11_whence 36 = .ok (.invokevirtual 164, 3) := by decide +kernel
theorem dX11_whence_39 : decode cX11_whence 39 = .ok (.istore_n 2, 1) := by decide +kernel
theorem dX11_whence_40 : decode cX11_whence 40 = .ok (.iload_n 2, 1) := by decide +kernel
theorem dX11_whence_41 : decode cX11_whence 41 = .ok (.bipush (-9), 2) := by decide +kernel
theorem dX11_whence_43 : decode cX11_whence 43 = .ok (.if_icmp .ne 6, 3) := by decide +kernel
theorem dX11_whence_46 : decode cX11_whence 46 = .ok (.ldc 163, 2) := by decide +kernel
theorem dX11_whence_48 : decode cX11_whence 48 = .ok (.ireturn, 1) := by decide +kernel
theorem dX11_whence_49 : decode cX11_whence 49 = .ok (.iload_n 1, 1) := by decide +kernel
theorem dX11_whence_50 : decode cX11_whence 50 = .ok (.tableswitch 59 0 3 #[30, 32, 41, 50], 30) := by decide +kernel
theorem dX11_whence_80 : decode cX11_whence 80 = .ok (.iload_n 2, 1) := by decide +kernel
theorem dX11_whence_81 : decode cX11_whence 81 = .ok (.ireturn, 1) := by decide +kernel
theorem dX11_whence_82 : decode cX11_whence 82 = .ok (.aload_n 0, 1) := by decide +kernel
theorem dX11_whence_83 : decode cX11_whence 83 = .ok (.getfield 50, 3) := by decide +kernel
theorem dX11_whence_86 : decode cX11_whence 86 = .ok (.iload_n 2, 1) := by decide +kernel
theorem dX11_whence_87 : decode cX11_whence 87 = .ok (.invokevirtual 167, 3) := by decide +kernel
theorem dX11_whence_90 : decode cX11_whence 90 = .ok (.ireturn, 1) := by decide +kernel
theorem dX11_whence_91 : decode cX11_whence 91 = .ok (.aload_n 0, 1) := by decide +kernel
theorem dX11_whence_92 : decode cX11_whence 92 = .ok (.getfield 50, 3) := by decide +kernel
theorem dX11_whence_95 : decode cX11_whence 95 = .ok (.iload_n 2, 1) := by decide +kernel
theorem dX11_whence_96 : decode cX11_whence 96 = .ok (.invokevirtual 170, 3) := by decide +kernel
theorem dX11_whence_99 : decode cX11_whence 99 = .ok (.ireturn, 1) := by decide +kernel
theorem dX11_whence_100 : decode cX11_whence 100 = .ok (.aload_n 0, 1) := by decide +kernel
theorem dX11_whence_101 : decode cX11_whence 101 = .ok (.getfield 50, 3) := by decide +kernel
theorem dX11_whence_104 : decode cX11_whence 104 = .ok (.iload_n 2, 1) := by decide +kernel
theorem dX11_whence_105 : decode cX11_whence 105 = .ok (.invokevirtual 173, 3) := by decide +kernel
theorem dX11_whence_108 : decode cX11_whence 108 = .ok (.ireturn, 1) := by decide +kernel
theorem dX11_whence_109 : decode cX11_whence 109 = .ok (.aload_n 0, 1) := by decide +kernel
theorem dX11_whence_110 : decode cX11_whence 110 = .ok (.getfield 50, 3) := by decide +kernel
theorem dX11_whence_113 : decode cX11_whence 113 = .ok (.iload_n 2, 1) := by decide +kernel
theorem dX11_whence_114 : decode cX11_whence 114 = .ok (.invokevirtual 176, 3) := by decide +kernel
theorem dX11_whence_117 : decode cX11_whence 117 = .ok (.ireturn, 1) := by decide +kernel
set_option maxRecDepth 20000 in
theorem ggX11_calendar_X1_become : GoodIn wsX11_calendar wsX1_become := goodIn_r _ [8, 9, 10, 11, 12, 13, 14, 15, 16, 17, 18, 19, 20, 21, 22, 23, 24, 25, 26, 27, 28, 29, 30, 31, 32, 7, 33, 34, 35, 36, 37, 38, 39, 40, 41, 42, 43, 59, 60, 61, 62, 63] (by decide +kernel) (by decide +kernel)
set_option maxRecDepth 20000 in
theorem gX11_calendar_X1_become : GoodIn wsX11_calendar (wsV RX11 179 RX1 yX1_become wsX1_become) := goodIn_app (goodIn_of _ (by decide +kernel)) ggX11_calendar_X1_become
set_option maxRecDepth 20000 in
theorem ggX11_calendar_X9_empty : GoodIn wsX11_calendar wsX9_empty := goodIn_r _ [47, 19, 62, 63] (by decide +kernel) (by decide +kernel)
set_option maxRecDepth 20000 in
theorem gX11_calendar_X9_empty : GoodIn wsX11_calendar (wsV RX11 95 RX9 yX9_empty wsX9_empty) := goodIn_app (goodIn_of _ (by decide +kernel)) ggX11_calendar_X9_empty
theorem dX11_calendar_0 : decode cX11_calendar 0 = .ok (.aload_n 0, 1) := by decide +kernel
theorem dX11_calendar_1 : decode cX11_calendar 1 = .ok (.getfield 77, 3) := by decide +kernel
theorem dX11_calendar_4 : decode cX11_calendar 4 = .ok (.aload_n 0, 1) := by decide +kernel
theorem dX11_calendar_5 : decode cX11_calendar 5 = .ok (.getfield 12, 3) := by decide +kernel
theorem dX11_calendar_8 : decode cX11_calendar 8 = .ok (.invokevirtual 179, 3) := by decide +kernel
theorem dX11_calendar_11 : decode cX11_calendar 11 = .ok (.istore_n 1, 1) := by decide +kernel
theorem dX11_calendar_12 : decode cX11_calendar 12 = .ok (.iload_n 1, 1) := by decide +kernel
theorem dX11_calendar_13 : decode cX11_calendar 13 = .ok (.iconst (-1), 1) := by decide +kernel
theorem dX11_calendar_14 : decode cX11_calendar 14 = .ok (.if_icmp .eq 8, 3) := by decide +kernel
theorem dX11_calendar_17 : decode cX11_calendar 17 = .ok (.bipush (-10), 2) := by decide +kernel
theorem dX11_calendar_19 : decode cX11_calendar 19 = .ok (.iload_n 1, 1) := by decide +kernel
theorem dX11_calendar_20 : decode cX11_calendar 20 = .ok (.isub, 1) := by decide +kernel
theorem dX11_calendar_21 : decode cX11_calendar 21 = .ok (.ireturn, 1) := by decide +kernel
theorem dX11_calendar_22 : decode cX11_calendar 22 = .ok (.aload_n 0, 1) := by decide +kernel
theorem dX11_calendar_23 : decode cX11_calendar 23 = .ok (.getfield 77, 3) := by decide +kernel
theorem dX11_calendar_26 : decode cX11_calendar 26 = .ok (.astore_n 2, 1) := by decide +kernel
theorem dX11_calendar_27 : decode cX11_calendar 27 = .ok (.aload_n 0, 1) := by decide +kernel
theorem dX11_calendar_28 : decode cX11_calendar 28 = .ok (.aload_n 0, 1) := by decide +kernel
theorem dX11_calendar_29 : decode cX11_calendar 29 = .ok (.getfield 73, 3) := by decide +kernel
theorem dX11_calendar_32 : decode cX11_calendar 32 = .ok (.putfield 77, 3) := by decide +kernel
theorem dX11_calendar_35 : decode cX11_calendar 35 = .ok (.aload_n 0, 1) := by decide +kernel
theorem dX11_calendar_36 : decode cX11_calendar 36 = .ok (.aload_n 2, 1) := by decide +kernel
theorem dX11_calendar_37 : decode cX11_calendar 37 = .ok (.putfield 73, 3) := by decide +kernel
theorem dX11_calendar_40 : decode cX11_calendar 40 = .ok (.aload_n 0, 1) := by decide +kernel
theorem dX11_calendar_41 : decode cX11_calendar 41 = .ok (.getfield 12, 3) := by decide +kernel
theorem dX11_calendar_44 : decode cX11_calendar 44 = .ok (.invokevirtual 95, 3) := by decide +kernel
theorem dX11_calendar_47 : decode cX11_calendar 47 = .ok (.pop, 1) := by decide +kernel
theorem dX11_calendar_48 : decode cX11_calendar 48 = .ok (.aload_n 0, 1) := by decide +kernel
theorem dX11_calendar_49 : decode cX11_calendar 49 = .ok (.getfield 73, 3) := by decide +kernel
theorem dX11_calendar_52 : decode cX11_calendar 52 = .ok (.getfield 180, 3) := by decide +kernel
theorem dX11_calendar_55 : decode cX11_calendar 55 = .ok (.ireturn, 1) := by decide +kernel
set_option maxRecDepth 20000 in
theorem ggX11_clock_X1_hasDay : GoodIn wsX11_clock wsX1_hasDay := goodIn_r _ [7, 8, 9, 10, 11, 12, 13, 34, 35, 36] (by decide +kernel) (by decide +kernel)
set_option maxRecDepth 20000 in
theorem gX11_clock_X1_hasDay : GoodIn wsX11_clock (wsV RX11 183 RX1 yX1_hasDay wsX1_hasDay) := goodIn_app (goodIn_of _ (by decide +kernel)) ggX11_clock_X1_hasDay
set_option maxRecDepth 20000 in
theorem ggX11_clock_X11_within : GoodIn wsX11_clock wsX11_within := goodIn_r _ [13] (by decide +kernel) (by decide +kernel)
set_option maxRecDepth 20000 in
theorem gX11_clock_X11_within : GoodIn wsX11_clock (va_wsS RX11 84 yX11_within wsX11_within) := goodIn_app (goodIn_of _ (by decide +kernel)) ggX11_clock_X11_within
set_option maxRecDepth 20000 in
theorem ggX11_clock_X1_daysAhead : GoodIn wsX11_clock wsX1_daysAhead := goodIn_r _ [18, 9, 19, 20, 21, 6, 22, 10, 34, 35, 36] (by decide +kernel) (by decide +kernel)
set_option maxRecDepth 20000 in
theorem gX11_clock_X1_daysAhead : GoodIn wsX11_clock (wsV RX11 186 RX1 yX1_daysAhead wsX1_daysAhead) := goodIn_app (goodIn_of _ (by decide +kernel)) ggX11_clock_X1_daysAhead
theorem dX11_clock_0 : decode cX11_clock 0 = .ok (.aload_n 0, 1) := by decide +kernel
theorem dX11_clock_1 : decode cX11_clock 1 = .ok (.getfield 73, 3) := by decide +kernel
theorem dX11_clock_4 : decode cX11_clock 4 = .ok (.iload_n 1, 1) := by decide +kernel
theorem dX11_clock_5 : decode cX11_clock 5 = .ok (.iload_n 2, 1) := by decide +kernel
theorem dX11_clock_6 : decode cX11_clock 6 = .ok (.iload_n 3, 1) := by decide +kernel
theorem dX11_clock_7 : decode cX11_clock 7 = .ok (.invokevirtual 183, 3) := by decide +kernel
theorem dX11_clock_10 : decode cX11_clock 10 = .ok (.ifCond .eq 14, 3) := by decide +kernel
theorem dX11_clock_13 : decode cX11_clock 13 = .ok (.iload 4, 2) := by decide +kernel
theorem dX11_clock_15 : decode cX11_clock 15 = .ok (.iconst 0, 1) := by decide +kernel
theorem dX11_clock_16 : decode cX11_clock 16 = .ok (.bipush 11, 2) := by decide +kernel
theorem dX11_clock_18 : decode cX11_clock 18 = .ok (.invokestatic 84, 3) := by decide +kernel
theorem dX11_clock_21 : decode cX11_clock 21 = .ok (.ifCond .ne 6, 3) := by decide +kernel
theorem dX11_clock_24 : decode cX11_clock 24 = .ok (.ldc 163, 2) := by decide +kernel
theorem dX11_clock_26 : decode cX11_clock 26 = .ok (.ireturn, 1) := by decide +kernel
theorem dX11_clock_27 : decode cX11_clock 27 = .ok (.aload_n 0, 1) := by decide +kernel
theorem dX11_clock_28 : decode cX11_clock 28 = .ok (.getfield 73, 3) := by decide +kernel
theorem dX11_clock_31 : decode cX11_clock 31 = .ok (.iload_n 1, 1) := by decide +kernel
theorem dX11_clock_32 : decode cX11_clock 32 = .ok (.iload_n 2, 1) := by decide +kernel
theorem dX11_clock_33 : decode cX11_clock 33 = .ok (.iload_n 3, 1) := by decide +kernel
theorem dX11_clock_34 : decode cX11_clock 34 = .ok (.invokevirtual 186, 3) := by decide +kernel
theorem dX11_clock_37 : decode cX11_clock 37 = .ok (.sipush 1440, 3) := by decide +kernel
theorem dX11_clock_40 : decode cX11_clock 40 = .ok (.imul, 1) := by decide +kernel
theorem dX11_clock_41 : decode cX11_clock 41 = .ok (.iload 4, 2) := by decide +kernel
theorem dX11_clock_43 : decode cX11_clock 43 = .ok (.bipush 120, 2) := by decide +kernel
theorem dX11_clock_45 : decode cX11_clock 45 = .ok (.imul, 1) := by decide +kernel
theorem dX11_clock_46 : decode cX11_clock 46 = .ok (.iadd, 1) := by decide +kernel
theorem dX11_clock_47 : decode cX11_clock 47 = .ok (.bipush 60, 2) := by decide +kernel
theorem dX11_clock_49 : decode cX11_clock 49 = .ok (.isub, 1) := by decide +kernel
theorem dX11_clock_50 : decode cX11_clock 50 = .ok (.ireturn, 1) := by decide +kernel
set_option maxRecDepth 20000 in
theorem ggX11_told_X11_within : GoodIn wsX11_told wsX11_within := goodIn_r _ [9] (by decide +kernel) (by decide +kernel)
set_option maxRecDepth 20000 in
theorem gX11_told_X11_within : GoodIn wsX11_told (va_wsS RX11 84 yX11_within wsX11_within) := goodIn_app (goodIn_of _ (by decide +kernel)) ggX11_told_X11_within
set_option maxRecDepth 20000 in
theorem ggX11_told_X1_allDays : GoodIn wsX11_told wsX1_allDays := goodIn_r _ [14, 15, 16, 17, 18, 19, 13, 20, 21, 38, 39, 40] (by decide +kernel) (by decide +kernel)
set_option maxRecDepth 20000 in
theorem gX11_told_X1_allDays : GoodIn wsX11_told (wsV RX11 193 RX1 yX1_allDays wsX1_allDays) := goodIn_app (goodIn_of _ (by decide +kernel)) ggX11_told_X1_allDays
set_option maxRecDepth 20000 in
theorem ggX11_told_X1_partOfDay : GoodIn wsX11_told wsX1_partOfDay := goodIn_r _ [25, 15, 16, 21, 26, 38, 39, 40] (by decide +kernel) (by decide +kernel)
set_option maxRecDepth 20000 in
theorem gX11_told_X1_partOfDay : GoodIn wsX11_told (wsV RX11 198 RX1 yX1_partOfDay wsX1_partOfDay) := goodIn_app (goodIn_of _ (by decide +kernel)) ggX11_told_X1_partOfDay
theorem dX11_told_0 : decode cX11_told 0 = .ok (.iload_n 2, 1) := by decide +kernel
theorem dX11_told_1 : decode cX11_told 1 = .ok (.iconst 0, 1) := by decide +kernel
theorem dX11_told_2 : decode cX11_told 2 = .ok (.iconst 3, 1) := by decide +kernel
theorem dX11_told_3 : decode cX11_told 3 = .ok (.invokestatic 84, 3) := by decide +kernel
theorem dX11_told_6 : decode cX11_told 6 = .ok (.ifCond .eq 9, 3) := by decide +kernel
theorem dX11_told_9 : decode cX11_told 9 = .ok (.iload_n 1, 1) := by decide +kernel
theorem dX11_told_10 : decode cX11_told 10 = .ok (.bipush (-60), 2) := by decide +kernel
theorem dX11_told_12 : decode cX11_told 12 = .ok (.if_icmp .ge 6, 3) := by decide +kernel
theorem dX11_told_15 : decode cX11_told 15 = .ok (.ldc 163, 2) := by decide +kernel
theorem dX11_told_17 : decode cX11_told 17 = .ok (.ireturn, 1) := by decide +kernel
theorem dX11_told_18 : decode cX11_told 18 = .ok (.iload_n 1, 1) := by decide +kernel
theorem dX11_told_19 : decode cX11_told 19 = .ok (.i2l, 1) := by decide +kernel
theorem dX11_told_20 : decode cX11_told 20 = .ok (.ldc2_w 189, 3) := by decide +kernel
theorem dX11_told_23 : decode cX11_told 23 = .ok (.ladd, 1) := by decide +kernel
theorem dX11_told_24 : decode cX11_told 24 = .ok (.lstore_n 3, 1) := by decide +kernel
theorem dX11_told_25 : decode cX11_told 25 = .ok (.lload_n 3, 1) := by decide +kernel
theorem dX11_told_26 : decode cX11_told 26 = .ok (.ldc2_w 191, 3) := by decide +kernel
theorem dX11_told_29 : decode cX11_told 29 = .ok (.ldiv, 1) := by decide +kernel
theorem dX11_told_30 : decode cX11_told 30 = .ok (.lstore 5, 2) := by decide +kernel
theorem dX11_told_32 : decode cX11_told 32 = .ok (.lload 5, 2) := by decide +kernel
theorem dX11_told_34 : decode cX11_told 34 = .ok (.aload_n 0, 1) := by decide +kernel
theorem dX11_told_35 : decode cX11_told 35 = .ok (.getfield 73, 3) := by decide +kernel
theorem dX11_told_38 : decode cX11_told 38 = .ok (.invokevirtual 193, 3) := by decide +kernel
theorem dX11_told_41 : decode cX11_told 41 = .ok (.i2l, 1) := by decide +kernel
theorem dX11_told_42 : decode cX11_told 42 = .ok (.lcmp, 1) := by decide +kernel
theorem dX11_told_43 : decode cX11_told 43 = .ok (.ifCond .lt 6, 3) := by decide +kernel
theorem dX11_told_46 : decode cX11_told 46 = .ok (.ldc 163, 2) := by decide +kernel
theorem dX11_told_48 : decode cX11_told 48 = .ok (.ireturn, 1) := by decide +kernel
theorem dX11_told_49 : decode cX11_told 49 = .ok (.iload_n 2, 1) := by decide +kernel
theorem dX11_told_50 : decode cX11_told 50 = .ok (.iconst 3, 1) := by decide +kernel
theorem dX11_told_51 : decode cX11_told 51 = .ok (.if_icmp .ne 14, 3) := by decide +kernel
theorem dX11_told_54 : decode cX11_told 54 = .ok (.lload_n 3, 1) := by decide +kernel
theorem dX11_told_55 : decode cX11_told 55 = .ok (.ldc2_w 191, 3) := by decide +kernel
theorem dX11_told_58 : decode cX11_told 58 = .ok (.lrem, 1) := by decide +kernel
theorem dX11_told_59 : decode cX11_told 59 = .ok (.ldc2_w 196, 3) := by decide +kernel
theorem dX11_told_62 : decode cX11_told 62 = .ok (.ldiv, 1) := by decide +kernel
theorem dX11_told_63 : decode cX11_told 63 = .ok (.l2i, 1) := by decide +kernel
theorem dX11_told_64 : decode cX11_told 64 = .ok (.ireturn, 1) := by decide +kernel
theorem dX11_told_65 : decode cX11_told 65 = .ok (.aload_n 0, 1) := by decide +kernel
theorem dX11_told_66 : decode cX11_told 66 = .ok (.getfield 73, 3) := by decide +kernel
theorem dX11_told_69 : decode cX11_told 69 = .ok (.lload 5, 2) := by decide +kernel
theorem dX11_told_71 : decode cX11_told 71 = .ok (.l2i, 1) := by decide +kernel
theorem dX11_told_72 : decode cX11_told 72 = .ok (.iload_n 2, 1) := by decide +kernel
theorem dX11_told_73 : decode cX11_told 73 = .ok (.invokevirtual 198, 3) := by decide +kernel
theorem dX11_told_76 : decode cX11_told 76 = .ok (.ireturn, 1) := by decide +kernel
set_option maxRecDepth 20000 in
theorem ggX11_ring_X11_isWidth : GoodIn wsX11_ring wsX11_isWidth := goodIn_r _ [5, 6, 7, 4, 8] (by decide +kernel) (by decide +kernel)
set_option maxRecDepth 20000 in
theorem gX11_ring_X11_isWidth : GoodIn wsX11_ring (va_wsS RX11 201 yX11_isWidth wsX11_isWidth) := goodIn_app (goodIn_of _ (by decide +kernel)) ggX11_ring_X11_isWidth
set_option maxRecDepth 20000 in
theorem ggX11_ring_X10_grow : GoodIn wsX11_ring wsX10_grow := goodIn_r _ [13, 14, 15, 27, 28, 29, 30, 31, 32] (by decide +kernel) (by decide +kernel)
set_option maxRecDepth 20000 in
theorem gX11_ring_X10_grow : GoodIn wsX11_ring (wsV RX11 207 RX10 yX10_grow wsX10_grow) := goodIn_app (goodIn_of _ (by decide +kernel)) ggX11_ring_X10_grow
theorem dX11_ring_0 : decode cX11_ring 0 = .ok (.iload_n 1, 1) := by decide +kernel
theorem dX11_ring_1 : decode cX11_ring 1 = .ok (.invokestatic 201, 3) := by decide +kernel
theorem dX11_ring_4 : decode cX11_ring 4 = .ok (.ifCond .ne 5, 3) := by decide +kernel
theorem dX11_ring_7 : decode cX11_ring 7 = .ok (.iconst (-1), 1) := by decide +kernel
theorem dX11_ring_8 : decode cX11_ring 8 = .ok (.ireturn, 1) := by decide +kernel
theorem dX11_ring_9 : decode cX11_ring 9 = .ok (.aload_n 0, 1) := by decide +kernel
theorem dX11_ring_10 : decode cX11_ring 10 = .ok (.getfield 26, 3) := by decide +kernel
theorem dX11_ring_13 : decode cX11_ring 13 = .ok (.getfield 204, 3) := by decide +kernel
theorem dX11_ring_16 : decode cX11_ring 16 = .ok (.bipush 60, 2) := by decide +kernel
theorem dX11_ring_18 : decode cX11_ring 18 = .ok (.if_icmp .lt 8, 3) := by decide +kernel
theorem dX11_ring_21 : decode cX11_ring 21 = .ok (.bipush (-3), 2) := by decide +kernel
theorem dX11_ring_23 : decode cX11_ring 23 = .ok (.goto 11, 3) := by decide +kernel
theorem dX11_ring_26 : decode cX11_ring 26 = .ok (.aload_n 0, 1) := by decide +kernel
theorem dX11_ring_27 : decode cX11_ring 27 = .ok (.getfield 26, 3) := by decide +kernel
theorem dX11_ring_30 : decode cX11_ring 30 = .ok (.iload_n 1, 1) := by decide +kernel
theorem dX11_ring_31 : decode cX11_ring 31 = .ok (.invokevirtual 207, 3) := by decide +kernel
theorem dX11_ring_34 : decode cX11_ring 34 = .ok (.ireturn, 1) := by decide +kernel
set_option maxRecDepth 20000 in
theorem ggX11_living_X11_isYear : GoodIn wsX11_living wsX11_isYear := goodIn_r _ [5, 6, 7, 4, 8] (by decide +kernel) (by decide +kernel)
set_option maxRecDepth 20000 in
theorem gX11_living_X11_isYear : GoodIn wsX11_living (va_wsS RX11 120 yX11_isYear wsX11_isYear) := goodIn_app (goodIn_of _ (by decide +kernel)) ggX11_living_X11_isYear
set_option maxRecDepth 20000 in
theorem ggX11_living_X10_plant : GoodIn wsX11_living wsX10_plant := goodIn_r _ [13, 14, 15, 27, 28, 29, 30, 31, 32] (by decide +kernel) (by decide +kernel)
set_option maxRecDepth 20000 in
theorem gX11_living_X10_plant : GoodIn wsX11_living (wsV RX11 210 RX10 yX10_plant wsX10_plant) := goodIn_app (goodIn_of _ (by decide +kernel)) ggX11_living_X10_plant
theorem dX11_living_0 : decode cX11_living 0 = .ok (.iload_n 1, 1) := by decide +kernel
theorem dX11_living_1 : decode cX11_living 1 = .ok (.invokestatic 120, 3) := by decide +kernel
theorem dX11_living_4 : decode cX11_living 4 = .ok (.ifCond .eq 14, 3) := by decide +kernel
theorem dX11_living_7 : decode cX11_living 7 = .ok (.aload_n 0, 1) := by decide +kernel
theorem dX11_living_8 : decode cX11_living 8 = .ok (.getfield 26, 3) := by decide +kernel
theorem dX11_living_11 : decode cX11_living 11 = .ok (.iload_n 1, 1) := by decide +kernel
theorem dX11_living_12 : decode cX11_living 12 = .ok (.invokevirtual 210, 3) := by decide +kernel
theorem dX11_living_15 : decode cX11_living 15 = .ok (.goto 4, 3) := by decide +kernel
theorem dX11_living_18 : decode cX11_living 18 = .ok (.iconst (-1), 1) := by decide +kernel
theorem dX11_living_19 : decode cX11_living 19 = .ok (.ireturn, 1) := by decide +kernel
set_option maxRecDepth 20000 in
theorem ggX11_wood_X11_isWood : GoodIn wsX11_wood wsX11_isWood := goodIn_r _ [5, 6, 7, 4, 8] (by decide +kernel) (by decide +kernel)
set_option maxRecDepth 20000 in
theorem gX11_wood_X11_isWood : GoodIn wsX11_wood (va_wsS RX11 213 yX11_isWood wsX11_isWood) := goodIn_app (goodIn_of _ (by decide +kernel)) ggX11_wood_X11_isWood
set_option maxRecDepth 20000 in
theorem ggX11_wood_X11_isWidth : GoodIn wsX11_wood wsX11_isWidth := goodIn_r _ [11, 6, 7, 4, 8] (by decide +kernel) (by decide +kernel)
set_option maxRecDepth 20000 in
theorem gX11_wood_X11_isWidth : GoodIn wsX11_wood (va_wsS RX11 201 yX11_isWidth wsX11_isWidth) := goodIn_app (goodIn_of _ (by decide +kernel)) ggX11_wood_X11_isWidth
set_option maxRecDepth 20000 in
theorem ggX11_wood_X10_growWood : GoodIn wsX11_wood wsX10_growWood := goodIn_r _ [16, 17, 18, 30, 31, 32, 33, 34, 35] (by decide +kernel) (by decide +kernel)
set_option maxRecDepth 20000 in
theorem gX11_wood_X10_growWood : GoodIn wsX11_wood (wsV RX11 219 RX10 yX10_growWood wsX10_growWood) := goodIn_app (goodIn_of _ (by decide +kernel)) ggX11_wood_X10_growWood
theorem dX11_wood_0 : decode cX11_wood 0 = .ok (.iload_n 1, 1) := by decide +kernel
theorem dX11_wood_1 : decode cX11_wood 1 = .ok (.invokestatic 213, 3) := by decide +kernel
theorem dX11_wood_4 : decode cX11_wood 4 = .ok (.ifCond .eq 10, 3) := by decide +kernel
theorem dX11_wood_7 : decode cX11_wood 7 = .ok (.iload_n 2, 1) := by decide +kernel
theorem dX11_wood_8 : decode cX11_wood 8 = .ok (.invokestatic 201, 3) := by decide +kernel
theorem dX11_wood_11 : decode cX11_wood 11 = .ok (.ifCond .ne 5, 3) := by decide +kernel
theorem dX11_wood_14 : decode cX11_wood 14 = .ok (.iconst (-1), 1) := by decide +kernel
theorem dX11_wood_15 : decode cX11_wood 15 = .ok (.ireturn, 1) := by decide +kernel
theorem dX11_wood_16 : decode cX11_wood 16 = .ok (.aload_n 0, 1) := by decide +kernel
theorem dX11_wood_17 : decode cX11_wood 17 = .ok (.getfield 26, 3) := by decide +kernel
theorem dX11_wood_20 : decode cX11_wood 20 = .ok (.getfield 216, 3) := by decide +kernel
theorem dX11_wood_23 : decode cX11_wood 23 = .ok (.iload_n 1, 1) := by decide +kernel
theorem dX11_wood_24 : decode cX11_wood 24 = .ok (.iaload, 1) := by decide +kernel
theorem dX11_wood_25 : decode cX11_wood 25 = .ok (.bipush 30, 2) := by decide +kernel
theorem dX11_wood_27 : decode cX11_wood 27 = .ok (.if_icmp .lt 8, 3) := by decide +kernel
theorem dX11_wood_30 : decode cX11_wood 30 = .ok (.bipush (-3), 2) := by decide +kernel
theorem dX11_wood_32 : decode cX11_wood 32 = .ok (.goto 12, 3) := by decide +kernel
theorem dX11_wood_35 : decode cX11_wood 35 = .ok (.aload_n 0, 1) := by decide +kernel
theorem dX11_wood_36 : decode cX11_wood 36 = .ok (.getfield 26, 3) := by decide +kernel
theorem dX11_wood_39 : decode cX11_wood 39 = .ok (.iload_n 1, 1) := by decide +kernel
theorem dX11_wood_40 : decode cX11_wood 40 = .ok (.iload_n 2, 1) := by decide +kernel
theorem dX11_wood_41 : decode cX11_wood 41 = .ok (.invokevirtual 219, 3) := by decide +kernel
theorem dX11_wood_44 : decode cX11_wood 44 = .ok (.ireturn, 1) := by decide +kernel
set_option maxRecDepth 20000 in
theorem ggX11_felled_X11_isWood : GoodIn wsX11_felled wsX11_isWood := goodIn_r _ [5, 6, 7, 4, 8] (by decide +kernel) (by decide +kernel)
set_option maxRecDepth 20000 in
theorem gX11_felled_X11_isWood : GoodIn wsX11_felled (va_wsS RX11 213 yX11_isWood wsX11_isWood) := goodIn_app (goodIn_of _ (by decide +kernel)) ggX11_felled_X11_isWood
set_option maxRecDepth 20000 in
theorem ggX11_felled_X11_isBit : GoodIn wsX11_felled wsX11_isBit := goodIn_r _ [11] (by decide +kernel) (by decide +kernel)
set_option maxRecDepth 20000 in
theorem gX11_felled_X11_isBit : GoodIn wsX11_felled (va_wsS RX11 222 yX11_isBit wsX11_isBit) := goodIn_app (goodIn_of _ (by decide +kernel)) ggX11_felled_X11_isBit
set_option maxRecDepth 20000 in
theorem ggX11_felled_X10_startWood : GoodIn wsX11_felled wsX10_startWood := goodIn_r _ [16, 17, 18, 30, 31, 32, 33, 34, 35] (by decide +kernel) (by decide +kernel)
set_option maxRecDepth 20000 in
theorem gX11_felled_X10_startWood : GoodIn wsX11_felled (wsV RX11 225 RX10 yX10_startWood wsX10_startWood) := goodIn_app (goodIn_of _ (by decide +kernel)) ggX11_felled_X10_startWood
theorem dX11_felled_0 : decode cX11_felled 0 = .ok (.iload_n 1, 1) := by decide +kernel
theorem dX11_felled_1 : decode cX11_felled 1 = .ok (.invokestatic 213, 3) := by decide +kernel
theorem dX11_felled_4 : decode cX11_felled 4 = .ok (.ifCond .eq 10, 3) := by decide +kernel
theorem dX11_felled_7 : decode cX11_felled 7 = .ok (.iload_n 2, 1) := by decide +kernel
theorem dX11_felled_8 : decode cX11_felled 8 = .ok (.invokestatic 222, 3) := by decide +kernel
theorem dX11_felled_11 : decode cX11_felled 11 = .ok (.ifCond .ne 5, 3) := by decide +kernel
theorem dX11_felled_14 : decode cX11_felled 14 = .ok (.iconst (-1), 1) := by decide +kernel
theorem dX11_felled_15 : decode cX11_felled 15 = .ok (.ireturn, 1) := by decide +kernel
theorem dX11_felled_16 : decode cX11_felled 16 = .ok (.aload_n 0, 1) := by decide +kernel
theorem dX11_felled_17 : decode cX11_felled 17 = .ok (.getfield 26, 3) := by decide +kernel
theorem dX11_felled_20 : decode cX11_felled 20 = .ok (.iload_n 1, 1) := by decide +kernel
theorem dX11_felled_21 : decode cX11_felled 21 = .ok (.iload_n 2, 1) := by decide +kernel
theorem dX11_felled_22 : decode cX11_felled 22 = .ok (.invokevirtual 225, 3) := by decide +kernel
theorem dX11_felled_25 : decode cX11_felled 25 = .ok (.ireturn, 1) := by decide +kernel
set_option maxRecDepth 20000 in
theorem ggX11_like_X11_isWood : GoodIn wsX11_like wsX11_isWood := goodIn_r _ [5, 6, 7, 4, 8] (by decide +kernel) (by decide +kernel)
set_option maxRecDepth 20000 in
theorem gX11_like_X11_isWood : GoodIn wsX11_like (va_wsS RX11 213 yX11_isWood wsX11_isWood) := goodIn_app (goodIn_of _ (by decide +kernel)) ggX11_like_X11_isWood
set_option maxRecDepth 20000 in
theorem ggX11_like_X10_lies : GoodIn wsX11_like wsX10_lies := goodIn_r _ [13, 14, 15, 7, 4, 8, 37, 38, 39, 40, 41, 42] (by decide +kernel) (by decide +kernel)
set_option maxRecDepth 20000 in
theorem gX11_like_X10_lies : GoodIn wsX11_like (wsV RX11 228 RX10 yX10_lies wsX10_lies) := goodIn_app (goodIn_of _ (by decide +kernel)) ggX11_like_X10_lies
set_option maxRecDepth 20000 in
theorem ggX11_like_X10_likeness : GoodIn wsX11_like wsX10_likeness := goodIn_r _ [19, 14, 20, 21, 22, 23, 24, 25, 37, 38, 39, 40, 41, 42] (by decide +kernel) (by decide +kernel)
set_option maxRecDepth 20000 in
theorem gX11_like_X10_likeness : GoodIn wsX11_like (wsV RX11 232 RX10 yX10_likeness wsX10_likeness) := goodIn_app (goodIn_of _ (by decide +kernel)) ggX11_like_X10_likeness
theorem dX11_like_0 : decode cX11_like 0 = .ok (.iload_n 1, 1) := by decide +kernel
theorem dX11_like_1 : decode cX11_like 1 = .ok (.invokestatic 213, 3) := by decide +kernel
theorem dX11_like_4 : decode cX11_like 4 = .ok (.ifCond .eq 15, 3) := by decide +kernel
theorem dX11_like_7 : decode cX11_like 7 = .ok (.aload_n 0, 1) := by decide +kernel
theorem dX11_like_8 : decode cX11_like 8 = .ok (.getfield 26, 3) := by decide +kernel
theorem dX11_like_11 : decode cX11_like 11 = .ok (.iload_n 1, 1) := by decide +kernel
theorem dX11_like_12 : decode cX11_like 12 = .ok (.iload_n 2, 1) := by decide +kernel
theorem dX11_like_13 : decode cX11_like 13 = .ok (.invokevirtual 228, 3) := by decide +kernel
theorem dX11_like_16 : decode cX11_like 16 = .ok (.ifCond .ne 5, 3) := by decide +kernel
theorem dX11_like_19 : decode cX11_like 19 = .ok (.iconst (-1), 1) := by decide +kernel
theorem dX11_like_20 : decode cX11_like 20 = .ok (.ireturn, 1) := by decide +kernel
theorem dX11_like_21 : decode cX11_like 21 = .ok (.aload_n 0, 1) := by decide +kernel
theorem dX11_like_22 : decode cX11_like 22 = .ok (.getfield 26, 3) := by decide +kernel
theorem dX11_like_25 : decode cX11_like 25 = .ok (.iload_n 1, 1) := by decide +kernel
theorem dX11_like_26 : decode cX11_like 26 = .ok (.iload_n 2, 1) := by decide +kernel
theorem dX11_like_27 : decode cX11_like 27 = .ok (.invokevirtual 232, 3) := by decide +kernel
theorem dX11_like_30 : decode cX11_like 30 = .ok (.ireturn, 1) := by decide +kernel
set_option maxRecDepth 20000 in
theorem ggX11_died_X11_isWood : GoodIn wsX11_died wsX11_isWood := goodIn_r _ [5, 6, 7, 4, 8] (by decide +kernel) (by decide +kernel)
set_option maxRecDepth 20000 in
theorem gX11_died_X11_isWood : GoodIn wsX11_died (va_wsS RX11 213 yX11_isWood wsX11_isWood) := goodIn_app (goodIn_of _ (by decide +kernel)) ggX11_died_X11_isWood
set_option maxRecDepth 20000 in
theorem ggX11_died_X11_within : GoodIn wsX11_died wsX11_within := goodIn_r _ [8] (by decide +kernel) (by decide +kernel)
set_option maxRecDepth 20000 in
theorem gX11_died_X11_within : GoodIn wsX11_died (va_wsS RX11 84 yX11_within wsX11_within) := goodIn_app (goodIn_of _ (by decide +kernel)) ggX11_died_X11_within
set_option maxRecDepth 20000 in
theorem ggX11_died_X10_laidOn : GoodIn wsX11_died wsX10_laidOn := goodIn_r _ [13, 14, 15, 16, 17, 18, 12, 19, 20, 21, 22, 23, 24, 25, 42, 43, 44, 45, 46, 47] (by decide +kernel) (by decide +kernel)
set_option maxRecDepth 20000 in
theorem gX11_died_X10_laidOn : GoodIn wsX11_died (wsV RX11 235 RX10 yX10_laidOn wsX10_laidOn) := goodIn_app (goodIn_of _ (by decide +kernel)) ggX11_died_X10_laidOn
set_option maxRecDepth 20000 in
theorem ggX11_died_X10_lastYear : GoodIn wsX11_died wsX10_lastYear := goodIn_r _ [29, 30, 14, 42, 43, 44, 45, 46, 47] (by decide +kernel) (by decide +kernel)
set_option maxRecDepth 20000 in
theorem gX11_died_X10_lastYear : GoodIn wsX11_died (wsV RX11 238 RX10 yX10_lastYear wsX10_lastYear) := goodIn_app (goodIn_of _ (by decide +kernel)) ggX11_died_X10_lastYear
theorem dX11_died_0 : decode cX11_died 0 = .ok (.iload_n 1, 1) := by decide +kernel
theorem dX11_died_1 : decode cX11_died 1 = .ok (.invokestatic 213, 3) := by decide +kernel
theorem dX11_died_4 : decode cX11_died 4 = .ok (.ifCond .eq 12, 3) := by decide +kernel
theorem dX11_died_7 : decode cX11_died 7 = .ok (.iload_n 2, 1) := by decide +kernel
theorem dX11_died_8 : decode cX11_died 8 = .ok (.iconst 0, 1) := by decide +kernel
theorem dX11_died_9 : decode cX11_died 9 = .ok (.iconst 2, 1) := by decide +kernel
theorem dX11_died_10 : decode cX11_died 10 = .ok (.invokestatic 84, 3) := by decide +kernel
theorem dX11_died_13 : decode cX11_died 13 = .ok (.ifCond .ne 5, 3) := by decide +kernel
theorem dX11_died_16 : decode cX11_died 16 = .ok (.iconst (-1), 1) := by decide +kernel
theorem dX11_died_17 : decode cX11_died 17 = .ok (.ireturn, 1) := by decide +kernel
theorem dX11_died_18 : decode cX11_died 18 = .ok (.aload_n 0, 1) := by decide +kernel
theorem dX11_died_19 : decode cX11_died 19 = .ok (.getfield 26, 3) := by decide +kernel
theorem dX11_died_22 : decode cX11_died 22 = .ok (.iload_n 1, 1) := by decide +kernel
theorem dX11_died_23 : decode cX11_died 23 = .ok (.invokevirtual 235, 3) := by decide +kernel
theorem dX11_died_26 : decode cX11_died 26 = .ok (.istore_n 3, 1) := by decide +kernel
theorem dX11_died_27 : decode cX11_died 27 = .ok (.iload_n 3, 1) := by decide +kernel
theorem dX11_died_28 : decode cX11_died 28 = .ok (.bipush (-9), 2) := by decide +kernel
theorem dX11_died_30 : decode cX11_died 30 = .ok (.if_icmp .eq 7, 3) := by decide +kernel
theorem dX11_died_33 : decode cX11_died 33 = .ok (.iload_n 2, 1) := by decide +kernel
theorem dX11_died_34 : decode cX11_died 34 = .ok (.ifCond .ne 5, 3) := by decide +kernel
theorem dX11_died_37 : decode cX11_died 37 = .ok (.iload_n 3, 1) := by decide +kernel
theorem dX11_died_38 : decode cX11_died 38 = .ok (.ireturn, 1) := by decide +kernel
theorem dX11_died_39 : decode cX11_died 39 = .ok (.iload_n 2, 1) := by decide +kernel
theorem dX11_died_40 : decode cX11_died 40 = .ok (.iconst 1, 1) := by decide +kernel
theorem dX11_died_41 : decode cX11_died 41 = .ok (.if_icmp .ne 15, 3) := by decide +kernel
theorem dX11_died_44 : decode cX11_died 44 = .ok (.aload_n 0, 1) := by decide +kernel
theorem dX11_died_45 : decode cX11_died 45 = .ok (.getfield 26, 3) := by decide +kernel
theorem dX11_died_48 : decode cX11_died 48 = .ok (.iload_n 1, 1) := by decide +kernel
theorem dX11_died_49 : decode cX11_died 49 = .ok (.iload_n 3, 1) := by decide +kernel
theorem dX11_died_50 : decode cX11_died 50 = .ok (.invokevirtual 238, 3) := by decide +kernel
theorem dX11_died_53 : decode cX11_died 53 = .ok (.goto 12, 3) := by decide +kernel
theorem dX11_died_56 : decode cX11_died 56 = .ok (.aload_n 0, 1) := by decide +kernel
theorem dX11_died_57 : decode cX11_died 57 = .ok (.getfield 26, 3) := by decide +kernel
theorem dX11_died_60 : decode cX11_died 60 = .ok (.getfield 241, 3) := by decide +kernel
theorem dX11_died_63 : decode cX11_died 63 = .ok (.iload_n 1, 1) := by decide +kernel
theorem dX11_died_64 : decode cX11_died 64 = .ok (.iaload, 1) := by decide +kernel
theorem dX11_died_65 : decode cX11_died 65 = .ok (.ireturn, 1) := by decide +kernel
set_option maxRecDepth 20000 in
theorem ggX11_alike_X10_sharedDeath : GoodIn wsX11_alike wsX10_sharedDeath := goodIn_r _ [6, 7, 8, 9, 10, 5, 11, 12, 13, 14, 15, 16, 17, 18, 19, 20, 21, 22, 23, 24, 25, 26, 27, 28, 40, 41, 42, 43, 44, 45] (by decide +kernel) (by decide +kernel)
set_option maxRecDepth 20000 in
theorem gX11_alike_X10_sharedDeath : GoodIn wsX11_alike (wsV RX11 244 RX10 yX10_sharedDeath wsX10_sharedDeath) := goodIn_app (goodIn_of _ (by decide +kernel)) ggX11_alike_X10_sharedDeath
theorem dX11_alike_0 : decode cX11_alike 0 = .ok (.aload_n 0, 1) := by decide +kernel
theorem dX11_alike_1 : decode cX11_alike 1 = .ok (.getfield 26, 3) := by decide +kernel
theorem dX11_alike_4 : decode cX11_alike 4 = .ok (.invokevirtual 244, 3) := by decide +kernel
theorem dX11_alike_7 : decode cX11_alike 7 = .ok (.ireturn, 1) := by decide +kernel
set_option maxRecDepth 20000 in
theorem ggX11_sheet_X11_isMarsh : GoodIn wsX11_sheet wsX11_isMarsh := goodIn_r _ [5, 6, 7, 4, 8] (by decide +kernel) (by decide +kernel)
set_option maxRecDepth 20000 in
theorem gX11_sheet_X11_isMarsh : GoodIn wsX11_sheet (va_wsS RX11 247 yX11_isMarsh wsX11_isMarsh) := goodIn_app (goodIn_of _ (by decide +kernel)) ggX11_sheet_X11_isMarsh
set_option maxRecDepth 20000 in
theorem ggX11_sheet_X11_isSpan : GoodIn wsX11_sheet wsX11_isSpan := goodIn_r _ [11] (by decide +kernel) (by decide +kernel)
set_option maxRecDepth 20000 in
theorem gX11_sheet_X11_isSpan : GoodIn wsX11_sheet (va_wsS RX11 137 yX11_isSpan wsX11_isSpan) := goodIn_app (goodIn_of _ (by decide +kernel)) ggX11_sheet_X11_isSpan
set_option maxRecDepth 20000 in
theorem ggX11_sheet_X6_add : GoodIn wsX11_sheet wsX6_add := goodIn_r _ [16, 17, 18, 19, 20, 38, 39, 40, 41] (by decide +kernel) (by decide +kernel)
set_option maxRecDepth 20000 in
theorem gX11_sheet_X6_add : GoodIn wsX11_sheet (wsV RX11 257 RX6 yX6_add wsX6_add) := goodIn_app (goodIn_of _ (by decide +kernel)) ggX11_sheet_X6_add
theorem dX11_sheet_0 : decode cX11_sheet 0 = .ok (.iload_n 1, 1) := by decide +kernel
theorem dX11_sheet_1 : decode cX11_sheet 1 = .ok (.invokestatic 247, 3) := by decide +kernel
theorem dX11_sheet_4 : decode cX11_sheet 4 = .ok (.ifCond .eq 15, 3) := by decide +kernel
theorem dX11_sheet_7 : decode cX11_sheet 7 = .ok (.iload_n 2, 1) := by decide +kernel
theorem dX11_sheet_8 : decode cX11_sheet 8 = .ok (.iload_n 3, 1) := by decide +kernel
theorem dX11_sheet_9 : decode cX11_sheet 9 = .ok (.iconst 0, 1) := by decide +kernel
theorem dX11_sheet_10 : decode cX11_sheet 10 = .ok (.sipush 9999, 3) := by decide +kernel
theorem dX11_sheet_13 : decode cX11_sheet 13 = .ok (.invokestatic 137, 3) := by decide +kernel
theorem dX11_sheet_16 : decode cX11_sheet 16 = .ok (.ifCond .ne 5, 3) := by decide +kernel
theorem dX11_sheet_19 : decode cX11_sheet 19 = .ok (.iconst (-1), 1) := by decide +kernel
theorem dX11_sheet_20 : decode cX11_sheet 20 = .ok (.ireturn, 1) := by decide +kernel
theorem dX11_sheet_21 : decode cX11_sheet 21 = .ok (.aload_n 0, 1) := by decide +kernel
theorem dX11_sheet_22 : decode cX11_sheet 22 = .ok (.getfield 33, 3) := by decide +kernel
theorem dX11_sheet_25 : decode cX11_sheet 25 = .ok (.getfield 250, 3) := by decide +kernel
theorem dX11_sheet_28 : decode cX11_sheet 28 = .ok (.getfield 254, 3) := by decide +kernel
theorem dX11_sheet_31 : decode cX11_sheet 31 = .ok (.bipush 12, 2) := by decide +kernel
theorem dX11_sheet_33 : decode cX11_sheet 33 = .ok (.if_icmp .lt 8, 3) := by decide +kernel
theorem dX11_sheet_36 : decode cX11_sheet 36 = .ok (.bipush (-3), 2) := by decide +kernel
theorem dX11_sheet_38 : decode cX11_sheet 38 = .ok (.goto 16, 3) := by decide +kernel
theorem dX11_sheet_41 : decode cX11_sheet 41 = .ok (.aload_n 0, 1) := by decide +kernel
theorem dX11_sheet_42 : decode cX11_sheet 42 = .ok (.getfield 33, 3) := by decide +kernel
theorem dX11_sheet_45 : decode cX11_sheet 45 = .ok (.getfield 250, 3) := by decide +kernel
theorem dX11_sheet_48 : decode cX11_sheet 48 = .ok (.iload_n 1, 1) := by decide +kernel
theorem dX11_sheet_49 : decode cX11_sheet 49 = .ok (.iload_n 2, 1) := by decide +kernel
theorem dX11_sheet_50 : decode cX11_sheet 50 = .ok (.iload_n 3, 1) := by decide +kernel
theorem dX11_sheet_51 : decode cX11_sheet 51 = .ok (.invokevirtual 257, 3) := by decide +kernel
theorem dX11_sheet_54 : decode cX11_sheet 54 = .ok (.ireturn, 1) := by decide +kernel
set_option maxRecDepth 20000 in
theorem ggX11_together_X6_all : GoodIn wsX11_together wsX6_all := goodIn_r _ [6, 7, 46, 47, 48, 49] (by decide +kernel) (by decide +kernel)
set_option maxRecDepth 20000 in
theorem gX11_together_X6_all : GoodIn wsX11_together (wsV RX11 259 RX6 yX6_all wsX6_all) := goodIn_app (goodIn_of _ (by decide +kernel)) ggX11_together_X6_all
set_option maxRecDepth 20000 in
theorem ggX11_together_X11_isBit : GoodIn wsX11_together wsX11_isBit := goodIn_r _ [11] (by decide +kernel) (by decide +kernel)
set_option maxRecDepth 20000 in
theorem gX11_together_X11_isBit : GoodIn wsX11_together (va_wsS RX11 222 yX11_isBit wsX11_isBit) := goodIn_app (goodIn_of _ (by decide +kernel)) ggX11_together_X11_isBit
set_option maxRecDepth 20000 in
theorem ggX11_together_X6_firstShared : GoodIn wsX11_together wsX6_firstShared := goodIn_r _ [15, 7, 16, 17, 18, 19, 20, 46, 47, 48, 49] (by decide +kernel) (by decide +kernel)
set_option maxRecDepth 20000 in
theorem gX11_together_X6_firstShared : GoodIn wsX11_together (wsV RX11 262 RX6 yX6_firstShared wsX6_firstShared) := goodIn_app (goodIn_of _ (by decide +kernel)) ggX11_together_X6_firstShared
set_option maxRecDepth 20000 in
theorem ggX11_together_X6_lastShared : GoodIn wsX11_together wsX6_lastShared := goodIn_r _ [24, 7, 25, 26, 27, 19, 28, 46, 47, 48, 49] (by decide +kernel) (by decide +kernel)
set_option maxRecDepth 20000 in
theorem gX11_together_X6_lastShared : GoodIn wsX11_together (wsV RX11 265 RX6 yX6_lastShared wsX6_lastShared) := goodIn_app (goodIn_of _ (by decide +kernel)) ggX11_together_X6_lastShared
theorem dX11_together_0 : decode cX11_together 0 = .ok (.iload_n 1, 1) := by decide +kernel
theorem dX11_together_1 : decode cX11_together 1 = .ok (.aload_n 0, 1) := by decide +kernel
theorem dX11_together_2 : decode cX11_together 2 = .ok (.getfield 33, 3) := by decide +kernel
theorem dX11_together_5 : decode cX11_together 5 = .ok (.getfield 250, 3) := by decide +kernel
theorem dX11_together_8 : decode cX11_together 8 = .ok (.invokevirtual 259, 3) := by decide +kernel
theorem dX11_together_11 : decode cX11_together 11 = .ok (.iand, 1) := by decide +kernel
theorem dX11_together_12 : decode cX11_together 12 = .ok (.istore_n 3, 1) := by decide +kernel
theorem dX11_together_13 : decode cX11_together 13 = .ok (.iload_n 3, 1) := by decide +kernel
theorem dX11_together_14 : decode cX11_together 14 = .ok (.ifCond .eq 10, 3) := by decide +kernel
theorem dX11_together_17 : decode cX11_together 17 = .ok (.iload_n 2, 1) := by decide +kernel
theorem dX11_together_18 : decode cX11_together 18 = .ok (.invokestatic 222, 3) := by decide +kernel
theorem dX11_together_21 : decode cX11_together 21 = .ok (.ifCond .ne 5, 3) := by decide +kernel
theorem dX11_together_24 : decode cX11_together 24 = .ok (.iconst (-1), 1) := by decide +kernel
theorem dX11_together_25 : decode cX11_together 25 = .ok (.ireturn, 1) := by decide +kernel
theorem dX11_together_26 : decode cX11_together 26 = .ok (.aload_n 0, 1) := by decide +kernel
theorem dX11_together_27 : decode cX11_together 27 = .ok (.getfield 33, 3) := by decide +kernel
theorem dX11_together_30 : decode cX11_together 30 = .ok (.getfield 250, 3) := by decide +kernel
theorem dX11_together_33 : decode cX11_together 33 = .ok (.iload_n 3, 1) := by decide +kernel
theorem dX11_together_34 : decode cX11_together 34 = .ok (.invokevirtual 262, 3) := by decide +kernel
theorem dX11_together_37 : decode cX11_together 37 = .ok (.istore 4, 2) := by decide +kernel
theorem dX11_together_39 : decode cX11_together 39 = .ok (.aload_n 0, 1) := by decide +kernel
theorem dX11_together_40 : decode cX11_together 40 = .ok (.getfield 33, 3) := by decide +kernel
theorem dX11_together_43 : decode cX11_together 43 = .ok (.getfield 250, 3) := by decide +kernel
theorem dX11_together_46 : decode cX11_together 46 = .ok (.iload_n 3, 1) := by decide +kernel
theorem dX11_together_47 : decode cX11_together 47 = .ok (.invokevirtual 265, 3) := by decide +kernel
theorem dX11_together_50 : decode cX11_together 50 = .ok (.istore 5, 2) := by decide +kernel
theorem dX11_together_52 : decode cX11_together 52 = .ok (.iload 4, 2) := by decide +kernel
theorem dX11_together_54 : decode cX11_together 54 = .ok (.iload 5, 2) := by decide +kernel
theorem dX11_together_56 : decode cX11_together 56 = .ok (.if_icmp .le 6, 3) := by decide +kernel
theorem dX11_together_59 : decode cX11_together 59 = .ok (.bipush (-9), 2) := by decide +kernel
theorem dX11_together_61 : decode cX11_together 61 = .ok (.ireturn, 1) := by decide +kernel
theorem dX11_together_62 : decode cX11_together 62 = .ok (.iload_n 2, 1) := by decide +kernel
theorem dX11_together_63 : decode cX11_together 63 = .ok (.ifCond .ne 8, 3) := by decide +kernel
theorem dX11_together_66 : decode cX11_together 66 = .ok (.iload 4, 2) := by decide +kernel
theorem dX11_together_68 : decode cX11_together 68 = .ok (.goto 5, 3) := by decide +kernel
theorem dX11_together_71 : decode cX11_together 71 = .ok (.iload 5, 2) := by decide +kernel
theorem dX11_together_73 : decode cX11_together 73 = .ok (.ireturn, 1) := by decide +kernel
set_option maxRecDepth 20000 in
theorem ggX11_slips_X6_fewestYears : GoodIn wsX11_slips wsX6_fewestYears := goodIn_r _ [10, 11, 12, 13, 9, 14, 15, 16, 17, 18, 19, 20, 21, 22, 4, 23, 24, 25, 26, 27, 28, 29, 30, 31, 55, 56, 57, 58] (by decide +kernel) (by decide +kernel)
set_option maxRecDepth 20000 in
theorem gX11_slips_X6_fewestYears : GoodIn wsX11_slips (wsV RX11 268 RX6 yX6_fewestYears wsX6_fewestYears) := goodIn_app (goodIn_of _ (by decide +kernel)) ggX11_slips_X6_fewestYears
set_option maxRecDepth 20000 in
theorem ggX11_slips_X6_mostOfOneMarsh : GoodIn wsX11_slips wsX6_mostOfOneMarsh := goodIn_r _ [35, 15, 36, 37, 3, 4, 5, 55, 56, 57, 58] (by decide +kernel) (by decide +kernel)
set_option maxRecDepth 20000 in
theorem gX11_slips_X6_mostOfOneMarsh : GoodIn wsX11_slips (wsV RX11 271 RX6 yX6_mostOfOneMarsh wsX6_mostOfOneMarsh) := goodIn_app (goodIn_of _ (by decide +kernel)) ggX11_slips_X6_mostOfOneMarsh
theorem dX11_slips_0 : decode cX11_slips 0 = .ok (.aload_n 0, 1) := by decide +kernel
theorem dX11_slips_1 : decode cX11_slips 1 = .ok (.getfield 33, 3) := by decide +kernel
theorem dX11_slips_4 : decode cX11_slips 4 = .ok (.getfield 250, 3) := by decide +kernel
theorem dX11_slips_7 : decode cX11_slips 7 = .ok (.invokevirtual 268, 3) := by decide +kernel
theorem dX11_slips_10 : decode cX11_slips 10 = .ok (.aload_n 0, 1) := by decide +kernel
theorem dX11_slips_11 : decode cX11_slips 11 = .ok (.getfield 33, 3) := by decide +kernel
theorem dX11_slips_14 : decode cX11_slips 14 = .ok (.getfield 250, 3) := by decide +kernel
theorem dX11_slips_17 : decode cX11_slips 17 = .ok (.invokevirtual 271, 3) := by decide +kernel
theorem dX11_slips_20 : decode cX11_slips 20 = .ok (.invokestatic 274, 3) := by decide +kernel
theorem dX11_slips_23 : decode cX11_slips 23 = .ok (.ireturn, 1) := by decide +kernel
set_option maxRecDepth 20000 in
theorem ggX11_joined_X11_isYear : GoodIn wsX11_joined wsX11_isYear := goodIn_r _ [5, 6, 7, 4, 8] (by decide +kernel) (by decide +kernel)
set_option maxRecDepth 20000 in
theorem gX11_joined_X11_isYear : GoodIn wsX11_joined (va_wsS RX11 120 yX11_isYear wsX11_isYear) := goodIn_app (goodIn_of _ (by decide +kernel)) ggX11_joined_X11_isYear
set_option maxRecDepth 20000 in
theorem ggX11_joined_X6_marshesAt : GoodIn wsX11_joined wsX6_marshesAt := goodIn_r _ [13, 14, 15, 16, 12, 17, 18, 19, 20, 7, 4, 8, 21, 22, 23, 24, 25, 43, 44, 45, 46] (by decide +kernel) (by decide +kernel)
set_option maxRecDepth 20000 in
theorem gX11_joined_X6_marshesAt : GoodIn wsX11_joined (wsV RX11 279 RX6 yX6_marshesAt wsX6_marshesAt) := goodIn_app (goodIn_of _ (by decide +kernel)) ggX11_joined_X6_marshesAt
theorem dX11_joined_0 : decode cX11_joined 0 = .ok (.iload_n 1, 1) := by decide +kernel
theorem dX11_joined_1 : decode cX11_joined 1 = .ok (.invokestatic 120, 3) := by decide +kernel
theorem dX11_joined_4 : decode cX11_joined 4 = .ok (.ifCond .eq 17, 3) := by decide +kernel
theorem dX11_joined_7 : decode cX11_joined 7 = .ok (.aload_n 0, 1) := by decide +kernel
theorem dX11_joined_8 : decode cX11_joined 8 = .ok (.getfield 33, 3) := by decide +kernel
theorem dX11_joined_11 : decode cX11_joined 11 = .ok (.getfield 250, 3) := by decide +kernel
theorem dX11_joined_14 : decode cX11_joined 14 = .ok (.iload_n 1, 1) := by decide +kernel
theorem dX11_joined_15 : decode cX11_joined 15 = .ok (.invokevirtual 279, 3) := by decide +kernel
theorem dX11_joined_18 : decode cX11_joined 18 = .ok (.goto 4, 3) := by decide +kernel
theorem dX11_joined_21 : decode cX11_joined 21 = .ok (.iconst (-1), 1) := by decide +kernel
theorem dX11_joined_22 : decode cX11_joined 22 = .ok (.ireturn, 1) := by decide +kernel
set_option maxRecDepth 20000 in
theorem ggX11_whole_X11_isBit : GoodIn wsX11_whole wsX11_isBit := goodIn_r _ [5] (by decide +kernel) (by decide +kernel)
set_option maxRecDepth 20000 in
theorem gX11_whole_X11_isBit : GoodIn wsX11_whole (va_wsS RX11 222 yX11_isBit wsX11_isBit) := goodIn_app (goodIn_of _ (by decide +kernel)) ggX11_whole_X11_isBit
set_option maxRecDepth 20000 in
theorem ggX11_whole_X6_widestYear : GoodIn wsX11_whole wsX6_widestYear := goodIn_r _ [10, 11, 12, 13, 14, 15, 9, 16, 17, 18, 19, 20, 21, 22, 4, 23, 24, 25, 26, 27, 28, 29, 30, 31, 32, 33, 34, 35, 55, 56, 57, 58] (by decide +kernel) (by decide +kernel)
set_option maxRecDepth 20000 in
theorem gX11_whole_X6_widestYear : GoodIn wsX11_whole (wsV RX11 282 RX6 yX6_widestYear wsX6_widestYear) := goodIn_app (goodIn_of _ (by decide +kernel)) ggX11_whole_X6_widestYear
set_option maxRecDepth 20000 in
theorem ggX11_whole_X6_marshesAt : GoodIn wsX11_whole wsX6_marshesAt := goodIn_r _ [16, 17, 18, 19, 9, 20, 11, 12, 21, 22, 4, 23, 24, 25, 26, 27, 28, 55, 56, 57, 58] (by decide +kernel) (by decide +kernel)
set_option maxRecDepth 20000 in
theorem gX11_whole_X6_marshesAt : GoodIn wsX11_whole (wsV RX11 279 RX6 yX6_marshesAt wsX6_marshesAt) := goodIn_app (goodIn_of _ (by decide +kernel)) ggX11_whole_X6_marshesAt
set_option maxRecDepth 20000 in
theorem ggX11_whole_J6_bitCount_0f7a4 : GoodIn wsX11_whole wsJ6_bitCount_0f7a4 := goodIn_r _ [32, 33, 34, 35] (by decide +kernel) (by decide +kernel)
set_option maxRecDepth 20000 in
theorem gX11_whole_J6_bitCount_0f7a4 : GoodIn wsX11_whole (va_wsS RX11 285 yJ6_bitCount_0f7a4 wsJ6_bitCount_0f7a4) := goodIn_app (goodIn_of _ (by decide +kernel)) ggX11_whole_J6_bitCount_0f7a4
theorem dX11_whole_0 : decode cX11_whole 0 = .ok (.iload_n 1, 1) := by decide +kernel
theorem dX11_whole_1 : decode cX11_whole 1 = .ok (.invokestatic 222, 3) := by decide +kernel
theorem dX11_whole_4 : decode cX11_whole 4 = .ok (.ifCond .ne 5, 3) := by decide +kernel
theorem dX11_whole_7 : decode cX11_whole 7 = .ok (.iconst (-1), 1) := by decide +kernel
theorem dX11_whole_8 : decode cX11_whole 8 = .ok (.ireturn, 1) := by decide +kernel
theorem dX11_whole_9 : decode cX11_whole 9 = .ok (.aload_n 0, 1) := by decide +kernel
theorem dX11_whole_10 : decode cX11_whole 10 = .ok (.getfield 33, 3) := by decide +kernel
theorem dX11_whole_13 : decode cX11_whole 13 = .ok (.getfield 250, 3) := by decide +kernel
theorem dX11_whole_16 : decode cX11_whole 16 = .ok (.invokevirtual 282, 3) := by decide +kernel
theorem dX11_whole_19 : decode cX11_whole 19 = .ok (.istore_n 2, 1) := by decide +kernel
theorem dX11_whole_20 : decode cX11_whole 20 = .ok (.iload_n 2, 1) := by decide +kernel
theorem dX11_whole_21 : decode cX11_whole 21 = .ok (.bipush (-9), 2) := by decide +kernel
theorem dX11_whole_23 : decode cX11_whole 23 = .ok (.if_icmp .eq 7, 3) := by decide +kernel
theorem dX11_whole_26 : decode cX11_whole 26 = .ok (.iload_n 1, 1) := by decide +kernel
theorem dX11_whole_27 : decode cX11_whole 27 = .ok (.ifCond .ne 5, 3) := by decide +kernel
theorem dX11_whole_30 : decode cX11_whole 30 = .ok (.iload_n 2, 1) := by decide +kernel
theorem dX11_whole_31 : decode cX11_whole 31 = .ok (.ireturn, 1) := by decide +kernel
theorem dX11_whole_32 : decode cX11_whole 32 = .ok (.aload_n 0, 1) := by decide +kernel
theorem dX11_whole_33 : decode cX11_whole 33 = .ok (.getfield 33, 3) := by decide +kernel
theorem dX11_whole_36 : decode cX11_whole 36 = .ok (.getfield 250, 3) := by decide +kernel
theorem dX11_whole_39 : decode cX11_whole 39 = .ok (.iload_n 2, 1) := by decide +kernel
theorem dX11_whole_40 : decode cX11_whole 40 = .ok (.invokevirtual 279, 3) := by decide +kernel
theorem dX11_whole_43 : decode cX11_whole 43 = .ok (.invokestatic 285, 3) := by decide +kernel
theorem dX11_whole_46 : decode cX11_whole 46 = .ok (.ireturn, 1) := by decide +kernel
set_option maxRecDepth 20000 in
theorem ggX11_tale_X11_isYear : GoodIn wsX11_tale wsX11_isYear := goodIn_r _ [5, 6, 7, 4, 8] (by decide +kernel) (by decide +kernel)
set_option maxRecDepth 20000 in
theorem gX11_tale_X11_isYear : GoodIn wsX11_tale (va_wsS RX11 120 yX11_isYear wsX11_isYear) := goodIn_app (goodIn_of _ (by decide +kernel)) ggX11_tale_X11_isYear
set_option maxRecDepth 20000 in
theorem ggX11_tale_X11_within : GoodIn wsX11_tale wsX11_within := goodIn_r _ [8] (by decide +kernel) (by decide +kernel)
set_option maxRecDepth 20000 in
theorem gX11_tale_X11_within : GoodIn wsX11_tale (va_wsS RX11 84 yX11_within wsX11_within) := goodIn_app (goodIn_of _ (by decide +kernel)) ggX11_tale_X11_within
set_option maxRecDepth 20000 in
theorem ggX11_tale_X11_isBit : GoodIn wsX11_tale wsX11_isBit := goodIn_r _ [11] (by decide +kernel) (by decide +kernel)
set_option maxRecDepth 20000 in
theorem gX11_tale_X11_isBit : GoodIn wsX11_tale (va_wsS RX11 222 yX11_isBit wsX11_isBit) := goodIn_app (goodIn_of _ (by decide +kernel)) ggX11_tale_X11_isBit
set_option maxRecDepth 20000 in
theorem ggX11_tale_X11_isSpan : GoodIn wsX11_tale wsX11_isSpan := goodIn_r _ [14] (by decide +kernel) (by decide +kernel)
set_option maxRecDepth 20000 in
theorem gX11_tale_X11_isSpan : GoodIn wsX11_tale (va_wsS RX11 137 yX11_isSpan wsX11_isSpan) := goodIn_app (goodIn_of _ (by decide +kernel)) ggX11_tale_X11_isSpan
theorem dX11_tale_0 : decode cX11_tale 0 = .ok (.iload_n 1, 1) := by decide +kernel
theorem dX11_tale_1 : decode cX11_tale 1 = .ok (.invokestatic 120, 3) := by decide +kernel
theorem dX11_tale_4 : decode cX11_tale 4 = .ok (.ifCond .eq 21, 3) := by decide +kernel
theorem dX11_tale_7 : decode cX11_tale 7 = .ok (.iload_n 2, 1) := by decide +kernel
theorem dX11_tale_8 : decode cX11_tale 8 = .ok (.iconst 0, 1) := by decide +kernel
theorem dX11_tale_9 : decode cX11_tale 9 = .ok (.bipush 50, 2) := by decide +kernel
theorem dX11_tale_11 : decode cX11_tale 11 = .ok (.invokestatic 84, 3) := by decide +kernel
theorem dX11_tale_14 : decode cX11_tale 14 = .ok (.ifCond .eq 11, 3) := by decide +kernel
theorem dX11_tale_17 : decode cX11_tale 17 = .ok (.iload 5, 2) := by decide +kernel
theorem dX11_tale_19 : decode cX11_tale 19 = .ok (.invokestatic 222, 3) := by decide +kernel
theorem dX11_tale_22 : decode cX11_tale 22 = .ok (.ifCond .ne 6, 3) := by decide +kernel
theorem dX11_tale_25 : decode cX11_tale 25 = .ok (.ldc 163, 2) := by decide +kernel
theorem dX11_tale_27 : decode cX11_tale 27 = .ok (.ireturn, 1) := by decide +kernel
theorem dX11_tale_28 : decode cX11_tale 28 = .ok (.iload_n 3, 1) := by decide +kernel
theorem dX11_tale_29 : decode cX11_tale 29 = .ok (.iload 4, 2) := by decide +kernel
theorem dX11_tale_31 : decode cX11_tale 31 = .ok (.iconst 1, 1) := by decide +kernel
theorem dX11_tale_32 : decode cX11_tale 32 = .ok (.bipush 99, 2) := by decide +kernel
theorem dX11_tale_34 : decode cX11_tale 34 = .ok (.invokestatic 137, 3) := by decide +kernel
theorem dX11_tale_37 : decode cX11_tale 37 = .ok (.ifCond .ne 6, 3) := by decide +kernel
theorem dX11_tale_40 : decode cX11_tale 40 = .ok (.ldc 163, 2) := by decide +kernel
theorem dX11_tale_42 : decode cX11_tale 42 = .ok (.ireturn, 1) := by decide +kernel
theorem dX11_tale_43 : decode cX11_tale 43 = .ok (.iload_n 1, 1) := by decide +kernel
theorem dX11_tale_44 : decode cX11_tale 44 = .ok (.iload_n 2, 1) := by decide +kernel
theorem dX11_tale_45 : decode cX11_tale 45 = .ok (.iload 5, 2) := by decide +kernel
theorem dX11_tale_47 : decode cX11_tale 47 = .ok (.ifCond .ne 8, 3) := by decide +kernel
theorem dX11_tale_50 : decode cX11_tale 50 = .ok (.iload 4, 2) := by decide +kernel
theorem dX11_tale_52 : decode cX11_tale 52 = .ok (.goto 4, 3) := by decide +kernel
theorem dX11_tale_55 : decode cX11_tale 55 = .ok (.iload_n 3, 1) := by decide +kernel
theorem dX11_tale_56 : decode cX11_tale 56 = .ok (.imul, 1) := by decide +kernel
theorem dX11_tale_57 : decode cX11_tale 57 = .ok (.isub, 1) := by decide +kernel
theorem dX11_tale_58 : decode cX11_tale 58 = .ok (.ireturn, 1) := by decide +kernel
set_option maxRecDepth 20000 in
theorem ggX11_known_X11_isYear : GoodIn wsX11_known wsX11_isYear := goodIn_r _ [5, 6, 7, 4, 8] (by decide +kernel) (by decide +kernel)
set_option maxRecDepth 20000 in
theorem gX11_known_X11_isYear : GoodIn wsX11_known (va_wsS RX11 120 yX11_isYear wsX11_isYear) := goodIn_app (goodIn_of _ (by decide +kernel)) ggX11_known_X11_isYear
set_option maxRecDepth 20000 in
theorem ggX11_known_X3_isLater : GoodIn wsX11_known wsX3_isLater := goodIn_r _ [13, 14, 15, 37, 38] (by decide +kernel) (by decide +kernel)
set_option maxRecDepth 20000 in
theorem gX11_known_X3_isLater : GoodIn wsX11_known (wsV RX11 294 RX3 yX3_isLater wsX3_isLater) := goodIn_app (goodIn_of _ (by decide +kernel)) ggX11_known_X3_isLater
set_option maxRecDepth 20000 in
theorem ggX11_known_X3_add : GoodIn wsX11_known wsX3_add := goodIn_r _ [19, 15, 14, 37, 38] (by decide +kernel) (by decide +kernel)
set_option maxRecDepth 20000 in
theorem gX11_known_X3_add : GoodIn wsX11_known (wsV RX11 300 RX3 yX3_add wsX3_add) := goodIn_app (goodIn_of _ (by decide +kernel)) ggX11_known_X3_add
theorem dX11_known_0 : decode cX11_known 0 = .ok (.iload_n 1, 1) := by decide +kernel
theorem dX11_known_1 : decode cX11_known 1 = .ok (.invokestatic 120, 3) := by decide +kernel
theorem dX11_known_4 : decode cX11_known 4 = .ok (.ifCond .eq 17, 3) := by decide +kernel
theorem dX11_known_7 : decode cX11_known 7 = .ok (.aload_n 0, 1) := by decide +kernel
theorem dX11_known_8 : decode cX11_known 8 = .ok (.getfield 33, 3) := by decide +kernel
theorem dX11_known_11 : decode cX11_known 11 = .ok (.getfield 290, 3) := by decide +kernel
theorem dX11_known_14 : decode cX11_known 14 = .ok (.iload_n 1, 1) := by decide +kernel
theorem dX11_known_15 : decode cX11_known 15 = .ok (.invokevirtual 294, 3) := by decide +kernel
theorem dX11_known_18 : decode cX11_known 18 = .ok (.ifCond .ne 5, 3) := by decide +kernel
theorem dX11_known_21 : decode cX11_known 21 = .ok (.iconst (-1), 1) := by decide +kernel
theorem dX11_known_22 : decode cX11_known 22 = .ok (.ireturn, 1) := by decide +kernel
theorem dX11_known_23 : decode cX11_known 23 = .ok (.aload_n 0, 1) := by decide +kernel
theorem dX11_known_24 : decode cX11_known 24 = .ok (.getfield 33, 3) := by decide +kernel
theorem dX11_known_27 : decode cX11_known 27 = .ok (.getfield 290, 3) := by decide +kernel
theorem dX11_known_30 : decode cX11_known 30 = .ok (.getfield 299, 3) := by decide +kernel
theorem dX11_known_33 : decode cX11_known 33 = .ok (.bipush 16, 2) := by decide +kernel
