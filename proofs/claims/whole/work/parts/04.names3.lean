theorem dX5_earliestBegin_15 : decode cX5_earliestBegin 15 = .ok (.iload_n 1, 1) := by decide +kernel
theorem dX5_earliestBegin_16 : decode cX5_earliestBegin 16 = .ok (.iaload, 1) := by decide +kernel
theorem dX5_earliestBegin_17 : decode cX5_earliestBegin 17 = .ok (.isub, 1) := by decide +kernel
theorem dX5_earliestBegin_18 : decode cX5_earliestBegin 18 = .ok (.istore_n 2, 1) := by decide +kernel
theorem dX5_earliestBegin_19 : decode cX5_earliestBegin 19 = .ok (.iconst 1, 1) := by decide +kernel
theorem dX5_earliestBegin_20 : decode cX5_earliestBegin 20 = .ok (.istore_n 3, 1) := by decide +kernel
theorem dX5_earliestBegin_21 : decode cX5_earliestBegin 21 = .ok (.iload_n 3, 1) := by decide +kernel
theorem dX5_earliestBegin_22 : decode cX5_earliestBegin 22 = .ok (.aload_n 0, 1) := by decide +kernel
theorem dX5_earliestBegin_23 : decode cX5_earliestBegin 23 = .ok (.getfield 20, 3) := by decide +kernel
theorem dX5_earliestBegin_26 : decode cX5_earliestBegin 26 = .ok (.getfield 24, 3) := by decide +kernel
theorem dX5_earliestBegin_29 : decode cX5_earliestBegin 29 = .ok (.if_icmp .ge 32, 3) := by decide +kernel
theorem dX5_earliestBegin_32 : decode cX5_earliestBegin 32 = .ok (.iload_n 2, 1) := by decide +kernel
theorem dX5_earliestBegin_33 : decode cX5_earliestBegin 33 = .ok (.aload_n 0, 1) := by decide +kernel
theorem dX5_earliestBegin_34 : decode cX5_earliestBegin 34 = .ok (.getfield 20, 3) := by decide +kernel
theorem dX5_earliestBegin_37 : decode cX5_earliestBegin 37 = .ok (.getfield 40, 3) := by decide +kernel
theorem dX5_earliestBegin_40 : decode cX5_earliestBegin 40 = .ok (.iload_n 3, 1) := by decide +kernel
theorem dX5_earliestBegin_41 : decode cX5_earliestBegin 41 = .ok (.iaload, 1) := by decide +kernel
theorem dX5_earliestBegin_42 : decode cX5_earliestBegin 42 = .ok (.aload_n 0, 1) := by decide +kernel
theorem dX5_earliestBegin_43 : decode cX5_earliestBegin 43 = .ok (.getfield 11, 3) := by decide +kernel
theorem dX5_earliestBegin_46 : decode cX5_earliestBegin 46 = .ok (.iload_n 3, 1) := by decide +kernel
theorem dX5_earliestBegin_47 : decode cX5_earliestBegin 47 = .ok (.aaload, 1) := by decide +kernel
theorem dX5_earliestBegin_48 : decode cX5_earliestBegin 48 = .ok (.iload_n 1, 1) := by decide +kernel
theorem dX5_earliestBegin_49 : decode cX5_earliestBegin 49 = .ok (.iaload, 1) := by decide +kernel
theorem dX5_earliestBegin_50 : decode cX5_earliestBegin 50 = .ok (.isub, 1) := by decide +kernel
theorem dX5_earliestBegin_51 : decode cX5_earliestBegin 51 = .ok (.invokestatic 43, 3) := by decide +kernel
theorem dX5_earliestBegin_54 : decode cX5_earliestBegin 54 = .ok (.istore_n 2, 1) := by decide +kernel
theorem dX5_earliestBegin_55 : decode cX5_earliestBegin 55 = .ok (.iinc 3 1, 3) := by decide +kernel
theorem dX5_earliestBegin_58 : decode cX5_earliestBegin 58 = .ok (.goto (-37), 3) := by decide +kernel
theorem dX5_earliestBegin_61 : decode cX5_earliestBegin 61 = .ok (.iload_n 2, 1) := by decide +kernel
theorem dX5_earliestBegin_62 : decode cX5_earliestBegin 62 = .ok (.ireturn, 1) := by decide +kernel
theorem dX5_latestBegin_0 : decode cX5_latestBegin 0 = .ok (.aload_n 0, 1) := by decide +kernel
theorem dX5_latestBegin_1 : decode cX5_latestBegin 1 = .ok (.getfield 20, 3) := by decide +kernel
theorem dX5_latestBegin_4 : decode cX5_latestBegin 4 = .ok (.getfield 49, 3) := by decide +kernel
theorem dX5_latestBegin_7 : decode cX5_latestBegin 7 = .ok (.iconst 0, 1) := by decide +kernel
theorem dX5_latestBegin_8 : decode cX5_latestBegin 8 = .ok (.iaload, 1) := by decide +kernel
theorem dX5_latestBegin_9 : decode cX5_latestBegin 9 = .ok (.aload_n 0, 1) := by decide +kernel
theorem dX5_latestBegin_10 : decode cX5_latestBegin 10 = .ok (.getfield 11, 3) := by decide +kernel
theorem dX5_latestBegin_13 : decode cX5_latestBegin 13 = .ok (.iconst 0, 1) := by decide +kernel
theorem dX5_latestBegin_14 : decode cX5_latestBegin 14 = .ok (.aaload, 1) := by decide +kernel
theorem dX5_latestBegin_15 : decode cX5_latestBegin 15 = .ok (.iload_n 1, 1) := by decide +kernel
theorem dX5_latestBegin_16 : decode cX5_latestBegin 16 = .ok (.iaload, 1) := by decide +kernel
theorem dX5_latestBegin_17 : decode cX5_latestBegin 17 = .ok (.isub, 1) := by decide +kernel
theorem dX5_latestBegin_18 : decode cX5_latestBegin 18 = .ok (.istore_n 2, 1) := by decide +kernel
theorem dX5_latestBegin_19 : decode cX5_latestBegin 19 = .ok (.iconst 1, 1) := by decide +kernel
theorem dX5_latestBegin_20 : decode cX5_latestBegin 20 = .ok (.istore_n 3, 1) := by decide +kernel
theorem dX5_latestBegin_21 : decode cX5_latestBegin 21 = .ok (.iload_n 3, 1) := by decide +kernel
theorem dX5_latestBegin_22 : decode cX5_latestBegin 22 = .ok (.aload_n 0, 1) := by decide +kernel
theorem dX5_latestBegin_23 : decode cX5_latestBegin 23 = .ok (.getfield 20, 3) := by decide +kernel
theorem dX5_latestBegin_26 : decode cX5_latestBegin 26 = .ok (.getfield 24, 3) := by decide +kernel
theorem dX5_latestBegin_29 : decode cX5_latestBegin 29 = .ok (.if_icmp .ge 32, 3) := by decide +kernel
theorem dX5_latestBegin_32 : decode cX5_latestBegin 32 = .ok (.iload_n 2, 1) := by decide +kernel
theorem dX5_latestBegin_33 : decode cX5_latestBegin 33 = .ok (.aload_n 0, 1) := by decide +kernel
theorem dX5_latestBegin_34 : decode cX5_latestBegin 34 = .ok (.getfield 20, 3) := by decide +kernel
theorem dX5_latestBegin_37 : decode cX5_latestBegin 37 = .ok (.getfield 49, 3) := by decide +kernel
theorem dX5_latestBegin_40 : decode cX5_latestBegin 40 = .ok (.iload_n 3, 1) := by decide +kernel
theorem dX5_latestBegin_41 : decode cX5_latestBegin 41 = .ok (.iaload, 1) := by decide +kernel
theorem dX5_latestBegin_42 : decode cX5_latestBegin 42 = .ok (.aload_n 0, 1) := by decide +kernel
theorem dX5_latestBegin_43 : decode cX5_latestBegin 43 = .ok (.getfield 11, 3) := by decide +kernel
theorem dX5_latestBegin_46 : decode cX5_latestBegin 46 = .ok (.iload_n 3, 1) := by decide +kernel
theorem dX5_latestBegin_47 : decode cX5_latestBegin 47 = .ok (.aaload, 1) := by decide +kernel
theorem dX5_latestBegin_48 : decode cX5_latestBegin 48 = .ok (.iload_n 1, 1) := by decide +kernel
theorem dX5_latestBegin_49 : decode cX5_latestBegin 49 = .ok (.iaload, 1) := by decide +kernel
theorem dX5_latestBegin_50 : decode cX5_latestBegin 50 = .ok (.isub, 1) := by decide +kernel
theorem dX5_latestBegin_51 : decode cX5_latestBegin 51 = .ok (.invokestatic 52, 3) := by decide +kernel
theorem dX5_latestBegin_54 : decode cX5_latestBegin 54 = .ok (.istore_n 2, 1) := by decide +kernel
theorem dX5_latestBegin_55 : decode cX5_latestBegin 55 = .ok (.iinc 3 1, 3) := by decide +kernel
theorem dX5_latestBegin_58 : decode cX5_latestBegin 58 = .ok (.goto (-37), 3) := by decide +kernel
theorem dX5_latestBegin_61 : decode cX5_latestBegin 61 = .ok (.iload_n 2, 1) := by decide +kernel
theorem dX5_latestBegin_62 : decode cX5_latestBegin 62 = .ok (.ireturn, 1) := by decide +kernel
set_option maxRecDepth 20000 in
theorem ggX5_beginsOf_X5_heightsFit : GoodIn wsX5_beginsOf wsX5_heightsFit := goodIn_r _ [5, 6, 7, 8, 9, 10, 11, 12, 13, 14, 15, 39, 40, 41, 42, 43, 44, 45, 46, 47, 48, 49, 50, 51, 52] (by decide +kernel) (by decide +kernel)
set_option maxRecDepth 20000 in
theorem gX5_beginsOf_X5_heightsFit : GoodIn wsX5_beginsOf (wsV RX5 55 RX5 yX5_heightsFit wsX5_heightsFit) := goodIn_app (goodIn_of _ (by decide +kernel)) ggX5_beginsOf_X5_heightsFit
set_option maxRecDepth 20000 in
theorem ggX5_beginsOf_X5_beginsByHours : GoodIn wsX5_beginsOf wsX5_beginsByHours := goodIn_r _ [19, 20, 21, 22, 23, 24, 25, 26, 4, 27, 6, 8, 28, 29, 30, 31, 32, 33, 34, 35, 36, 37, 38, 39, 40, 41, 42, 43, 44, 45, 46, 47] (by decide +kernel) (by decide +kernel)
set_option maxRecDepth 20000 in
theorem gX5_beginsOf_X5_beginsByHours : GoodIn wsX5_beginsOf (wsV RX5 59 RX5 yX5_beginsByHours wsX5_beginsByHours) := goodIn_app (goodIn_of _ (by decide +kernel)) ggX5_beginsOf_X5_beginsByHours
theorem dX5_beginsOf_0 : decode cX5_beginsOf 0 = .ok (.aload_n 0, 1) := by decide +kernel
theorem dX5_beginsOf_1 : decode cX5_beginsOf 1 = .ok (.iload_n 1, 1) := by decide +kernel
theorem dX5_beginsOf_2 : decode cX5_beginsOf 2 = .ok (.iload_n 2, 1) := by decide +kernel
theorem dX5_beginsOf_3 : decode cX5_beginsOf 3 = .ok (.invokevirtual 55, 3) := by decide +kernel
theorem dX5_beginsOf_6 : decode cX5_beginsOf 6 = .ok (.ifCond .eq 11, 3) := by decide +kernel
theorem dX5_beginsOf_9 : decode cX5_beginsOf 9 = .ok (.aload_n 0, 1) := by decide +kernel
theorem dX5_beginsOf_10 : decode cX5_beginsOf 10 = .ok (.iload_n 1, 1) := by decide +kernel
theorem dX5_beginsOf_11 : decode cX5_beginsOf 11 = .ok (.invokevirtual 59, 3) := by decide +kernel
theorem dX5_beginsOf_14 : decode cX5_beginsOf 14 = .ok (.goto 4, 3) := by decide +kernel
theorem dX5_beginsOf_17 : decode cX5_beginsOf 17 = .ok (.iconst 0, 1) := by decide +kernel
theorem dX5_beginsOf_18 : decode cX5_beginsOf 18 = .ok (.ireturn, 1) := by decide +kernel
set_option maxRecDepth 20000 in
theorem ggX5_waysOf_X5_beginsByHours : GoodIn wsX5_waysOf wsX5_beginsByHours := goodIn_r _ [5, 6, 7, 8, 9, 10, 11, 12, 4, 13, 14, 15, 16, 17, 18, 19, 20, 21, 22, 23, 24, 25, 26, 39, 40, 41, 42, 43, 44, 45, 46, 47] (by decide +kernel) (by decide +kernel)
set_option maxRecDepth 20000 in
theorem gX5_waysOf_X5_beginsByHours : GoodIn wsX5_waysOf (wsV RX5 59 RX5 yX5_beginsByHours wsX5_beginsByHours) := goodIn_app (goodIn_of _ (by decide +kernel)) ggX5_waysOf_X5_beginsByHours
set_option maxRecDepth 20000 in
theorem ggX5_waysOf_X5_heightsFit : GoodIn wsX5_waysOf wsX5_heightsFit := goodIn_r _ [30, 14, 31, 15, 32, 33, 34, 35, 36, 37, 38, 39, 40, 41, 42, 43, 44, 45, 46, 47, 48, 49, 50, 51, 52] (by decide +kernel) (by decide +kernel)
set_option maxRecDepth 20000 in
theorem gX5_waysOf_X5_heightsFit : GoodIn wsX5_waysOf (wsV RX5 55 RX5 yX5_heightsFit wsX5_heightsFit) := goodIn_app (goodIn_of _ (by decide +kernel)) ggX5_waysOf_X5_heightsFit
theorem dX5_waysOf_0 : decode cX5_waysOf 0 = .ok (.aload_n 0, 1) := by decide +kernel
theorem dX5_waysOf_1 : decode cX5_waysOf 1 = .ok (.iload_n 1, 1) := by decide +kernel
theorem dX5_waysOf_2 : decode cX5_waysOf 2 = .ok (.invokevirtual 59, 3) := by decide +kernel
theorem dX5_waysOf_5 : decode cX5_waysOf 5 = .ok (.istore_n 2, 1) := by decide +kernel
theorem dX5_waysOf_6 : decode cX5_waysOf 6 = .ok (.iload_n 2, 1) := by decide +kernel
theorem dX5_waysOf_7 : decode cX5_waysOf 7 = .ok (.ifCond .ne 5, 3) := by decide +kernel
theorem dX5_waysOf_10 : decode cX5_waysOf 10 = .ok (.iconst 0, 1) := by decide +kernel
theorem dX5_waysOf_11 : decode cX5_waysOf 11 = .ok (.ireturn, 1) := by decide +kernel
theorem dX5_waysOf_12 : decode cX5_waysOf 12 = .ok (.iconst 0, 1) := by decide +kernel
theorem dX5_waysOf_13 : decode cX5_waysOf 13 = .ok (.istore_n 3, 1) := by decide +kernel
theorem dX5_waysOf_14 : decode cX5_waysOf 14 = .ok (.iconst 1, 1) := by decide +kernel
theorem dX5_waysOf_15 : decode cX5_waysOf 15 = .ok (.istore 4, 2) := by decide +kernel
theorem dX5_waysOf_17 : decode cX5_waysOf 17 = .ok (.iload 4, 2) := by decide +kernel
theorem dX5_waysOf_19 : decode cX5_waysOf 19 = .ok (.bipush 99, 2) := by decide +kernel
theorem dX5_waysOf_21 : decode cX5_waysOf 21 = .ok (.if_icmp .gt 22, 3) := by decide +kernel
theorem dX5_waysOf_24 : decode cX5_waysOf 24 = .ok (.aload_n 0, 1) := by decide +kernel
theorem dX5_waysOf_25 : decode cX5_waysOf 25 = .ok (.iload_n 1, 1) := by decide +kernel
theorem dX5_waysOf_26 : decode cX5_waysOf 26 = .ok (.iload 4, 2) := by decide +kernel
theorem dX5_waysOf_28 : decode cX5_waysOf 28 = .ok (.invokevirtual 55, 3) := by decide +kernel
theorem dX5_waysOf_31 : decode cX5_waysOf 31 = .ok (.ifCond .eq 6, 3) := by decide +kernel
theorem dX5_waysOf_34 : decode cX5_waysOf 34 = .ok (.iinc 3 1, 3) := by decide +kernel
theorem dX5_waysOf_37 : decode cX5_waysOf 37 = .ok (.iinc 4 1, 3) := by decide +kernel
theorem dX5_waysOf_40 : decode cX5_waysOf 40 = .ok (.goto (-23), 3) := by decide +kernel
theorem dX5_waysOf_43 : decode cX5_waysOf 43 = .ok (.iload_n 2, 1) := by decide +kernel
theorem dX5_waysOf_44 : decode cX5_waysOf 44 = .ok (.iload_n 3, 1) := by decide +kernel
theorem dX5_waysOf_45 : decode cX5_waysOf 45 = .ok (.imul, 1) := by decide +kernel
theorem dX5_waysOf_46 : decode cX5_waysOf 46 = .ok (.ireturn, 1) := by decide +kernel
set_option maxRecDepth 20000 in
theorem ggX5_allWays_X5_waysOf : GoodIn wsX5_allWays wsX5_waysOf := goodIn_r _ [5, 6, 7, 8, 4, 9, 10, 11, 12, 13, 14, 15, 16, 17, 18, 19, 20, 21, 22, 23, 24, 25, 26, 27, 28, 29, 30, 31, 32, 33, 34, 35, 36, 37, 38, 39, 40, 41, 42, 43, 44, 45, 46, 47, 48, 49, 50, 51, 52, 53, 54, 55, 56] (by decide +kernel) (by decide +kernel)
set_option maxRecDepth 20000 in
theorem gX5_allWays_X5_waysOf : GoodIn wsX5_allWays (wsV RX5 63 RX5 yX5_waysOf wsX5_waysOf) := goodIn_app (goodIn_of _ (by decide +kernel)) ggX5_allWays_X5_waysOf
theorem dX5_allWays_0 : decode cX5_allWays 0 = .ok (.iconst 0, 1) := by decide +kernel
theorem dX5_allWays_1 : decode cX5_allWays 1 = .ok (.istore_n 1, 1) := by decide +kernel
theorem dX5_allWays_2 : decode cX5_allWays 2 = .ok (.iconst 0, 1) := by decide +kernel
theorem dX5_allWays_3 : decode cX5_allWays 3 = .ok (.istore_n 2, 1) := by decide +kernel
theorem dX5_allWays_4 : decode cX5_allWays 4 = .ok (.iload_n 2, 1) := by decide +kernel
theorem dX5_allWays_5 : decode cX5_allWays 5 = .ok (.bipush 48, 2) := by decide +kernel
theorem dX5_allWays_7 : decode cX5_allWays 7 = .ok (.if_icmp .ge 17, 3) := by decide +kernel
theorem dX5_allWays_10 : decode cX5_allWays 10 = .ok (.iload_n 1, 1) := by decide +kernel
theorem dX5_allWays_11 : decode cX5_allWays 11 = .ok (.aload_n 0, 1) := by decide +kernel
theorem dX5_allWays_12 : decode cX5_allWays 12 = .ok (.iload_n 2, 1) := by decide +kernel
theorem dX5_allWays_13 : decode cX5_allWays 13 = .ok (.invokevirtual 63, 3) := by decide +kernel
theorem dX5_allWays_16 : decode cX5_allWays 16 = .ok (.iadd, 1) := by decide +kernel
theorem dX5_allWays_17 : decode cX5_allWays 17 = .ok (.istore_n 1, 1) := by decide +kernel
theorem dX5_allWays_18 : decode cX5_allWays 18 = .ok (.iinc 2 1, 3) := by decide +kernel
theorem dX5_allWays_21 : decode cX5_allWays 21 = .ok (.goto (-17), 3) := by decide +kernel
theorem dX5_allWays_24 : decode cX5_allWays 24 = .ok (.iload_n 1, 1) := by decide +kernel
theorem dX5_allWays_25 : decode cX5_allWays 25 = .ok (.ireturn, 1) := by decide +kernel
set_option maxRecDepth 20000 in
theorem ggX5_likeliestCell_X5_waysOf : GoodIn wsX5_likeliestCell wsX5_waysOf := goodIn_r _ [5, 6, 7, 8, 4, 9, 10, 11, 12, 13, 14, 15, 16, 17, 18, 19, 20, 21, 22, 23, 24, 25, 26, 27, 28, 29, 30, 31, 32, 33, 34, 35, 36, 37, 38, 39, 40, 41, 42, 43, 44, 45, 46, 47, 48, 49, 50, 51, 52, 53, 54, 55, 56] (by decide +kernel) (by decide +kernel)
set_option maxRecDepth 20000 in
theorem gX5_likeliestCell_X5_waysOf : GoodIn wsX5_likeliestCell (wsV RX5 63 RX5 yX5_waysOf wsX5_waysOf) := goodIn_app (goodIn_of _ (by decide +kernel)) ggX5_likeliestCell_X5_waysOf
theorem dX5_likeliestCell_0 : decode cX5_likeliestCell 0 = .ok (.bipush (-9), 2) := by decide +kernel
theorem dX5_likeliestCell_2 : decode cX5_likeliestCell 2 = .ok (.istore_n 1, 1) := by decide +kernel
theorem dX5_likeliestCell_3 : decode cX5_likeliestCell 3 = .ok (.iconst 0, 1) := by decide +kernel
theorem dX5_likeliestCell_4 : decode cX5_likeliestCell 4 = .ok (.istore_n 2, 1) := by decide +kernel
theorem dX5_likeliestCell_5 : decode cX5_likeliestCell 5 = .ok (.iconst 0, 1) := by decide +kernel
theorem dX5_likeliestCell_6 : decode cX5_likeliestCell 6 = .ok (.istore_n 3, 1) := by decide +kernel
theorem dX5_likeliestCell_7 : decode cX5_likeliestCell 7 = .ok (.iload_n 3, 1) := by decide +kernel
theorem dX5_likeliestCell_8 : decode cX5_likeliestCell 8 = .ok (.bipush 48, 2) := by decide +kernel
theorem dX5_likeliestCell_10 : decode cX5_likeliestCell 10 = .ok (.if_icmp .ge 27, 3) := by decide +kernel
theorem dX5_likeliestCell_13 : decode cX5_likeliestCell 13 = .ok (.aload_n 0, 1) := by decide +kernel
theorem dX5_likeliestCell_14 : decode cX5_likeliestCell 14 = .ok (.iload_n 3, 1) := by decide +kernel
theorem dX5_likeliestCell_15 : decode cX5_likeliestCell 15 = .ok (.invokevirtual 63, 3) := by decide +kernel
theorem dX5_likeliestCell_18 : decode cX5_likeliestCell 18 = .ok (.istore 4, 2) := by decide +kernel
theorem dX5_likeliestCell_20 : decode cX5_likeliestCell 20 = .ok (.iload 4, 2) := by decide +kernel
theorem dX5_likeliestCell_22 : decode cX5_likeliestCell 22 = .ok (.iload_n 2, 1) := by decide +kernel
theorem dX5_likeliestCell_23 : decode cX5_likeliestCell 23 = .ok (.if_icmp .le 8, 3) := by decide +kernel
theorem dX5_likeliestCell_26 : decode cX5_likeliestCell 26 = .ok (.iload 4, 2) := by decide +kernel
theorem dX5_likeliestCell_28 : decode cX5_likeliestCell 28 = .ok (.istore_n 2, 1) := by decide +kernel
theorem dX5_likeliestCell_29 : decode cX5_likeliestCell 29 = .ok (.iload_n 3, 1) := by decide +kernel
theorem dX5_likeliestCell_30 : decode cX5_likeliestCell 30 = .ok (.istore_n 1, 1) := by decide +kernel
theorem dX5_likeliestCell_31 : decode cX5_likeliestCell 31 = .ok (.iinc 3 1, 3) := by decide +kernel
theorem dX5_likeliestCell_34 : decode cX5_likeliestCell 34 = .ok (.goto (-27), 3) := by decide +kernel
theorem dX5_likeliestCell_37 : decode cX5_likeliestCell 37 = .ok (.iload_n 1, 1) := by decide +kernel
theorem dX5_likeliestCell_38 : decode cX5_likeliestCell 38 = .ok (.ireturn, 1) := by decide +kernel
set_option maxRecDepth 20000 in
theorem ggX5_leastSize_X5_heightsFit : GoodIn wsX5_leastSize wsX5_heightsFit := goodIn_r _ [6, 7, 8, 9, 10, 11, 12, 13, 14, 15, 16, 17, 18, 19, 20, 21, 22, 23, 24, 25, 26, 27, 28, 29, 30] (by decide +kernel) (by decide +kernel)
set_option maxRecDepth 20000 in
theorem gX5_leastSize_X5_heightsFit : GoodIn wsX5_leastSize (wsV RX5 55 RX5 yX5_heightsFit wsX5_heightsFit) := goodIn_app (goodIn_of _ (by decide +kernel)) ggX5_leastSize_X5_heightsFit
theorem dX5_leastSize_0 : decode cX5_leastSize 0 = .ok (.iconst 1, 1) := by decide +kernel
theorem dX5_leastSize_1 : decode cX5_leastSize 1 = .ok (.istore_n 2, 1) := by decide +kernel
theorem dX5_leastSize_2 : decode cX5_leastSize 2 = .ok (.iload_n 2, 1) := by decide +kernel
theorem dX5_leastSize_3 : decode cX5_leastSize 3 = .ok (.bipush 99, 2) := by decide +kernel
theorem dX5_leastSize_5 : decode cX5_leastSize 5 = .ok (.if_icmp .gt 20, 3) := by decide +kernel
theorem dX5_leastSize_8 : decode cX5_leastSize 8 = .ok (.aload_n 0, 1) := by decide +kernel
theorem dX5_leastSize_9 : decode cX5_leastSize 9 = .ok (.iload_n 1, 1) := by decide +kernel
theorem dX5_leastSize_10 : decode cX5_leastSize 10 = .ok (.iload_n 2, 1) := by decide +kernel
theorem dX5_leastSize_11 : decode cX5_leastSize 11 = .ok (.invokevirtual 55, 3) := by decide +kernel
theorem dX5_leastSize_14 : decode cX5_leastSize 14 = .ok (.ifCond .eq 5, 3) := by decide +kernel
theorem dX5_leastSize_17 : decode cX5_leastSize 17 = .ok (.iload_n 2, 1) := by decide +kernel
theorem dX5_leastSize_18 : decode cX5_leastSize 18 = .ok (.ireturn, 1) := by decide +kernel
theorem dX5_leastSize_19 : decode cX5_leastSize 19 = .ok (.iinc 2 1, 3) := by decide +kernel
theorem dX5_leastSize_22 : decode cX5_leastSize 22 = .ok (.goto (-20), 3) := by decide +kernel
theorem dX5_leastSize_25 : decode cX5_leastSize 25 = .ok (.ldc 66, 2) := by decide +kernel
theorem dX5_leastSize_27 : decode cX5_leastSize 27 = .ok (.ireturn, 1) := by decide +kernel
set_option maxRecDepth 20000 in
theorem ggX5_greatestSize_X5_heightsFit : GoodIn wsX5_greatestSize wsX5_heightsFit := goodIn_r _ [6, 7, 8, 9, 10, 11, 12, 13, 14, 15, 16, 17, 18, 19, 20, 21, 22, 23, 24, 25, 26, 27, 28, 29, 30] (by decide +kernel) (by decide +kernel)
set_option maxRecDepth 20000 in
theorem gX5_greatestSize_X5_heightsFit : GoodIn wsX5_greatestSize (wsV RX5 55 RX5 yX5_heightsFit wsX5_heightsFit) := goodIn_app (goodIn_of _ (by decide +kernel)) ggX5_greatestSize_X5_heightsFit
theorem dX5_greatestSize_0 : decode cX5_greatestSize 0 = .ok (.bipush 99, 2) := by decide +kernel
theorem dX5_greatestSize_2 : decode cX5_greatestSize 2 = .ok (.istore_n 2, 1) := by decide +kernel
theorem dX5_greatestSize_3 : decode cX5_greatestSize 3 = .ok (.iload_n 2, 1) := by decide +kernel
theorem dX5_greatestSize_4 : decode cX5_greatestSize 4 = .ok (.iconst 1, 1) := by decide +kernel
theorem dX5_greatestSize_5 : decode cX5_greatestSize 5 = .ok (.if_icmp .lt 20, 3) := by decide +kernel
theorem dX5_greatestSize_8 : decode cX5_greatestSize 8 = .ok (.aload_n 0, 1) := by decide +kernel
theorem dX5_greatestSize_9 : decode cX5_greatestSize 9 = .ok (.iload_n 1, 1) := by decide +kernel
theorem dX5_greatestSize_10 : decode cX5_greatestSize 10 = .ok (.iload_n 2, 1) := by decide +kernel
theorem dX5_greatestSize_11 : decode cX5_greatestSize 11 = .ok (.invokevirtual 55, 3) := by decide +kernel
theorem dX5_greatestSize_14 : decode cX5_greatestSize 14 = .ok (.ifCond .eq 5, 3) := by decide +kernel
theorem dX5_greatestSize_17 : decode cX5_greatestSize 17 = .ok (.iload_n 2, 1) := by decide +kernel
theorem dX5_greatestSize_18 : decode cX5_greatestSize 18 = .ok (.ireturn, 1) := by decide +kernel
theorem dX5_greatestSize_19 : decode cX5_greatestSize 19 = .ok (.iinc 2 (-1), 3) := by decide +kernel
theorem dX5_greatestSize_22 : decode cX5_greatestSize 22 = .ok (.goto (-19), 3) := by decide +kernel
theorem dX5_greatestSize_25 : decode cX5_greatestSize 25 = .ok (.ldc 66, 2) := by decide +kernel
theorem dX5_greatestSize_27 : decode cX5_greatestSize 27 = .ok (.ireturn, 1) := by decide +kernel
set_option maxRecDepth 20000 in
theorem ggX5_beginsByHours_X5_comesToAll : GoodIn wsX5_beginsByHours wsX5_comesToAll := goodIn_r _ [9, 10, 11, 23, 24, 25, 26, 27, 28, 29, 30, 31] (by decide +kernel) (by decide +kernel)
set_option maxRecDepth 20000 in
theorem gX5_beginsByHours_X5_comesToAll : GoodIn wsX5_beginsByHours (wsV RX5 67 RX5 yX5_comesToAll wsX5_comesToAll) := goodIn_app (goodIn_of _ (by decide +kernel)) ggX5_beginsByHours_X5_comesToAll
set_option maxRecDepth 20000 in
theorem ggX5_beginsByHours_X5_latestBegin : GoodIn wsX5_beginsByHours wsX5_latestBegin := goodIn_r _ [15, 10, 11, 16, 17, 3, 18, 23, 24, 25, 26, 27, 28, 29, 30, 31] (by decide +kernel) (by decide +kernel)
set_option maxRecDepth 20000 in
theorem gX5_beginsByHours_X5_latestBegin : GoodIn wsX5_beginsByHours (wsV RX5 71 RX5 yX5_latestBegin wsX5_latestBegin) := goodIn_app (goodIn_of _ (by decide +kernel)) ggX5_beginsByHours_X5_latestBegin
set_option maxRecDepth 20000 in
theorem ggX5_beginsByHours_X5_earliestBegin : GoodIn wsX5_beginsByHours wsX5_earliestBegin := goodIn_r _ [22, 10, 11, 1, 2, 3, 4, 23, 24, 25, 26, 27, 28, 29, 30, 31] (by decide +kernel) (by decide +kernel)
set_option maxRecDepth 20000 in
theorem gX5_beginsByHours_X5_earliestBegin : GoodIn wsX5_beginsByHours (wsV RX5 74 RX5 yX5_earliestBegin wsX5_earliestBegin) := goodIn_app (goodIn_of _ (by decide +kernel)) ggX5_beginsByHours_X5_earliestBegin
theorem dX5_beginsByHours_0 : decode cX5_beginsByHours 0 = .ok (.aload_n 0, 1) := by decide +kernel
theorem dX5_beginsByHours_1 : decode cX5_beginsByHours 1 = .ok (.iload_n 1, 1) := by decide +kernel
theorem dX5_beginsByHours_2 : decode cX5_beginsByHours 2 = .ok (.invokevirtual 67, 3) := by decide +kernel
theorem dX5_beginsByHours_5 : decode cX5_beginsByHours 5 = .ok (.ifCond .ne 5, 3) := by decide +kernel
theorem dX5_beginsByHours_8 : decode cX5_beginsByHours 8 = .ok (.iconst 0, 1) := by decide +kernel
theorem dX5_beginsByHours_9 : decode cX5_beginsByHours 9 = .ok (.ireturn, 1) := by decide +kernel
theorem dX5_beginsByHours_10 : decode cX5_beginsByHours 10 = .ok (.iconst 0, 1) := by decide +kernel
theorem dX5_beginsByHours_11 : decode cX5_beginsByHours 11 = .ok (.aload_n 0, 1) := by decide +kernel
theorem dX5_beginsByHours_12 : decode cX5_beginsByHours 12 = .ok (.iload_n 1, 1) := by decide +kernel
theorem dX5_beginsByHours_13 : decode cX5_beginsByHours 13 = .ok (.invokevirtual 71, 3) := by decide +kernel
theorem dX5_beginsByHours_16 : decode cX5_beginsByHours 16 = .ok (.aload_n 0, 1) := by decide +kernel
theorem dX5_beginsByHours_17 : decode cX5_beginsByHours 17 = .ok (.iload_n 1, 1) := by decide +kernel
theorem dX5_beginsByHours_18 : decode cX5_beginsByHours 18 = .ok (.invokevirtual 74, 3) := by decide +kernel
theorem dX5_beginsByHours_21 : decode cX5_beginsByHours 21 = .ok (.isub, 1) := by decide +kernel
theorem dX5_beginsByHours_22 : decode cX5_beginsByHours 22 = .ok (.iconst 1, 1) := by decide +kernel
theorem dX5_beginsByHours_23 : decode cX5_beginsByHours 23 = .ok (.iadd, 1) := by decide +kernel
theorem dX5_beginsByHours_24 : decode cX5_beginsByHours 24 = .ok (.invokestatic 43, 3) := by decide +kernel
theorem dX5_beginsByHours_27 : decode cX5_beginsByHours 27 = .ok (.ireturn, 1) := by decide +kernel
theorem dX5_comesToAll_0 : decode cX5_comesToAll 0 = .ok (.iconst 0, 1) := by decide +kernel
theorem dX5_comesToAll_1 : decode cX5_comesToAll 1 = .ok (.istore_n 2, 1) := by decide +kernel
theorem dX5_comesToAll_2 : decode cX5_comesToAll 2 = .ok (.iload_n 2, 1) := by decide +kernel
theorem dX5_comesToAll_3 : decode cX5_comesToAll 3 = .ok (.aload_n 0, 1) := by decide +kernel
theorem dX5_comesToAll_4 : decode cX5_comesToAll 4 = .ok (.getfield 20, 3) := by decide +kernel
theorem dX5_comesToAll_7 : decode cX5_comesToAll 7 = .ok (.getfield 24, 3) := by decide +kernel
theorem dX5_comesToAll_10 : decode cX5_comesToAll 10 = .ok (.if_icmp .ge 24, 3) := by decide +kernel
theorem dX5_comesToAll_13 : decode cX5_comesToAll 13 = .ok (.aload_n 0, 1) := by decide +kernel
theorem dX5_comesToAll_14 : decode cX5_comesToAll 14 = .ok (.getfield 11, 3) := by decide +kernel
theorem dX5_comesToAll_17 : decode cX5_comesToAll 17 = .ok (.iload_n 2, 1) := by decide +kernel
theorem dX5_comesToAll_18 : decode cX5_comesToAll 18 = .ok (.aaload, 1) := by decide +kernel
theorem dX5_comesToAll_19 : decode cX5_comesToAll 19 = .ok (.iload_n 1, 1) := by decide +kernel
theorem dX5_comesToAll_20 : decode cX5_comesToAll 20 = .ok (.iaload, 1) := by decide +kernel
theorem dX5_comesToAll_21 : decode cX5_comesToAll 21 = .ok (.bipush (-9), 2) := by decide +kernel
theorem dX5_comesToAll_23 : decode cX5_comesToAll 23 = .ok (.if_icmp .ne 5, 3) := by decide +kernel
theorem dX5_comesToAll_26 : decode cX5_comesToAll 26 = .ok (.iconst 0, 1) := by decide +kernel
theorem dX5_comesToAll_27 : decode cX5_comesToAll 27 = .ok (.ireturn, 1) := by decide +kernel
theorem dX5_comesToAll_28 : decode cX5_comesToAll 28 = .ok (.iinc 2 1, 3) := by decide +kernel
theorem dX5_comesToAll_31 : decode cX5_comesToAll 31 = .ok (.goto (-29), 3) := by decide +kernel
theorem dX5_comesToAll_34 : decode cX5_comesToAll 34 = .ok (.iconst 1, 1) := by decide +kernel
theorem dX5_comesToAll_35 : decode cX5_comesToAll 35 = .ok (.ireturn, 1) := by decide +kernel
set_option maxRecDepth 20000 in
theorem ggX5_heightsFit_X4_swell : GoodIn wsX5_heightsFit wsX4_swell := goodIn_r _ [8, 9, 10, 20, 21, 22, 23, 24] (by decide +kernel) (by decide +kernel)
set_option maxRecDepth 20000 in
theorem gX5_heightsFit_X4_swell : GoodIn wsX5_heightsFit (wsV RX5 77 RX4 yX4_swell wsX4_swell) := goodIn_app (goodIn_of _ (by decide +kernel)) ggX5_heightsFit_X4_swell
theorem dX5_heightsFit_0 : decode cX5_heightsFit 0 = .ok (.iconst 0, 1) := by decide +kernel
theorem dX5_heightsFit_1 : decode cX5_heightsFit 1 = .ok (.istore_n 3, 1) := by decide +kernel
theorem dX5_heightsFit_2 : decode cX5_heightsFit 2 = .ok (.iload_n 3, 1) := by decide +kernel
theorem dX5_heightsFit_3 : decode cX5_heightsFit 3 = .ok (.aload_n 0, 1) := by decide +kernel
theorem dX5_heightsFit_4 : decode cX5_heightsFit 4 = .ok (.getfield 20, 3) := by decide +kernel
theorem dX5_heightsFit_7 : decode cX5_heightsFit 7 = .ok (.getfield 24, 3) := by decide +kernel
theorem dX5_heightsFit_10 : decode cX5_heightsFit 10 = .ok (.if_icmp .ge 66, 3) := by decide +kernel
theorem dX5_heightsFit_13 : decode cX5_heightsFit 13 = .ok (.aload_n 0, 1) := by decide +kernel
theorem dX5_heightsFit_14 : decode cX5_heightsFit 14 = .ok (.getfield 16, 3) := by decide +kernel
theorem dX5_heightsFit_17 : decode cX5_heightsFit 17 = .ok (.aload_n 0, 1) := by decide +kernel
theorem dX5_heightsFit_18 : decode cX5_heightsFit 18 = .ok (.getfield 11, 3) := by decide +kernel
theorem dX5_heightsFit_21 : decode cX5_heightsFit 21 = .ok (.iload_n 3, 1) := by decide +kernel
theorem dX5_heightsFit_22 : decode cX5_heightsFit 22 = .ok (.aaload, 1) := by decide +kernel
theorem dX5_heightsFit_23 : decode cX5_heightsFit 23 = .ok (.iload_n 1, 1) := by decide +kernel
theorem dX5_heightsFit_24 : decode cX5_heightsFit 24 = .ok (.iaload, 1) := by decide +kernel
theorem dX5_heightsFit_25 : decode cX5_heightsFit 25 = .ok (.iload_n 2, 1) := by decide +kernel
theorem dX5_heightsFit_26 : decode cX5_heightsFit 26 = .ok (.aload_n 0, 1) := by decide +kernel
theorem dX5_heightsFit_27 : decode cX5_heightsFit 27 = .ok (.getfield 20, 3) := by decide +kernel
theorem dX5_heightsFit_30 : decode cX5_heightsFit 30 = .ok (.getfield 30, 3) := by decide +kernel
theorem dX5_heightsFit_33 : decode cX5_heightsFit 33 = .ok (.iload_n 3, 1) := by decide +kernel
theorem dX5_heightsFit_34 : decode cX5_heightsFit 34 = .ok (.iaload, 1) := by decide +kernel
theorem dX5_heightsFit_35 : decode cX5_heightsFit 35 = .ok (.invokevirtual 77, 3) := by decide +kernel
theorem dX5_heightsFit_38 : decode cX5_heightsFit 38 = .ok (.istore 4, 2) := by decide +kernel
theorem dX5_heightsFit_40 : decode cX5_heightsFit 40 = .ok (.iload 4, 2) := by decide +kernel
theorem dX5_heightsFit_42 : decode cX5_heightsFit 42 = .ok (.aload_n 0, 1) := by decide +kernel
theorem dX5_heightsFit_43 : decode cX5_heightsFit 43 = .ok (.getfield 20, 3) := by decide +kernel
theorem dX5_heightsFit_46 : decode cX5_heightsFit 46 = .ok (.getfield 81, 3) := by decide +kernel
theorem dX5_heightsFit_49 : decode cX5_heightsFit 49 = .ok (.iload_n 3, 1) := by decide +kernel
theorem dX5_heightsFit_50 : decode cX5_heightsFit 50 = .ok (.iaload, 1) := by decide +kernel
theorem dX5_heightsFit_51 : decode cX5_heightsFit 51 = .ok (.if_icmp .lt 17, 3) := by decide +kernel
theorem dX5_heightsFit_54 : decode cX5_heightsFit 54 = .ok (.iload 4, 2) := by decide +kernel
theorem dX5_heightsFit_56 : decode cX5_heightsFit 56 = .ok (.aload_n 0, 1) := by decide +kernel
theorem dX5_heightsFit_57 : decode cX5_heightsFit 57 = .ok (.getfield 20, 3) := by decide +kernel
theorem dX5_heightsFit_60 : decode cX5_heightsFit 60 = .ok (.getfield 84, 3) := by decide +kernel
theorem dX5_heightsFit_63 : decode cX5_heightsFit 63 = .ok (.iload_n 3, 1) := by decide +kernel
theorem dX5_heightsFit_64 : decode cX5_heightsFit 64 = .ok (.iaload, 1) := by decide +kernel
theorem dX5_heightsFit_65 : decode cX5_heightsFit 65 = .ok (.if_icmp .le 5, 3) := by decide +kernel
theorem dX5_heightsFit_68 : decode cX5_heightsFit 68 = .ok (.iconst 0, 1) := by decide +kernel
theorem dX5_heightsFit_69 : decode cX5_heightsFit 69 = .ok (.ireturn, 1) := by decide +kernel
theorem dX5_heightsFit_70 : decode cX5_heightsFit 70 = .ok (.iinc 3 1, 3) := by decide +kernel
theorem dX5_heightsFit_73 : decode cX5_heightsFit 73 = .ok (.goto (-71), 3) := by decide +kernel
theorem dX5_heightsFit_76 : decode cX5_heightsFit 76 = .ok (.iconst 1, 1) := by decide +kernel
theorem dX5_heightsFit_77 : decode cX5_heightsFit 77 = .ok (.ireturn, 1) := by decide +kernel
theorem dX6_init_0 : decode cX6_init 0 = .ok (.aload_n 0, 1) := by decide +kernel
theorem dX6_init_1 : decode cX6_init 1 = .ok (.invokespecial 3, 3) := by decide +kernel
theorem dX6_init_4 : decode cX6_init 4 = .ok (.aload_n 0, 1) := by decide +kernel
theorem dX6_init_5 : decode cX6_init 5 = .ok (.bipush 12, 2) := by decide +kernel
theorem dX6_init_7 : decode cX6_init 7 = .ok (.newarray .int, 2) := by decide +kernel
theorem dX6_init_9 : decode cX6_init 9 = .ok (.putfield 9, 3) := by decide +kernel
theorem dX6_init_12 : decode cX6_init 12 = .ok (.aload_n 0, 1) := by decide +kernel
theorem dX6_init_13 : decode cX6_init 13 = .ok (.bipush 12, 2) := by decide +kernel
theorem dX6_init_15 : decode cX6_init 15 = .ok (.newarray .int, 2) := by decide +kernel
theorem dX6_init_17 : decode cX6_init 17 = .ok (.putfield 15, 3) := by decide +kernel
theorem dX6_init_20 : decode cX6_init 20 = .ok (.aload_n 0, 1) := by decide +kernel
theorem dX6_init_21 : decode cX6_init 21 = .ok (.bipush 12, 2) := by decide +kernel
theorem dX6_init_23 : decode cX6_init 23 = .ok (.newarray .int, 2) := by decide +kernel
theorem dX6_init_25 : decode cX6_init 25 = .ok (.putfield 18, 3) := by decide +kernel
theorem dX6_init_28 : decode cX6_init 28 = .ok (.return_, 1) := by decide +kernel
theorem dX6_add_0 : decode cX6_add 0 = .ok (.aload_n 0, 1) := by decide +kernel
theorem dX6_add_1 : decode cX6_add 1 = .ok (.getfield 9, 3) := by decide +kernel
theorem dX6_add_4 : decode cX6_add 4 = .ok (.aload_n 0, 1) := by decide +kernel
theorem dX6_add_5 : decode cX6_add 5 = .ok (.getfield 21, 3) := by decide +kernel
theorem dX6_add_8 : decode cX6_add 8 = .ok (.iload_n 1, 1) := by decide +kernel
theorem dX6_add_9 : decode cX6_add 9 = .ok (.iastore, 1) := by decide +kernel
theorem dX6_add_10 : decode cX6_add 10 = .ok (.aload_n 0, 1) := by decide +kernel
theorem dX6_add_11 : decode cX6_add 11 = .ok (.getfield 15, 3) := by decide +kernel
theorem dX6_add_14 : decode cX6_add 14 = .ok (.aload_n 0, 1) := by decide +kernel
theorem dX6_add_15 : decode cX6_add 15 = .ok (.getfield 21, 3) := by decide +kernel
theorem dX6_add_18 : decode cX6_add 18 = .ok (.iload_n 2, 1) := by decide +kernel
theorem dX6_add_19 : decode cX6_add 19 = .ok (.iastore, 1) := by decide +kernel
theorem dX6_add_20 : decode cX6_add 20 = .ok (.aload_n 0, 1) := by decide +kernel
theorem dX6_add_21 : decode cX6_add 21 = .ok (.getfield 18, 3) := by decide +kernel
theorem dX6_add_24 : decode cX6_add 24 = .ok (.aload_n 0, 1) := by decide +kernel
theorem dX6_add_25 : decode cX6_add 25 = .ok (.getfield 21, 3) := by decide +kernel
theorem dX6_add_28 : decode cX6_add 28 = .ok (.iload_n 3, 1) := by decide +kernel
theorem dX6_add_29 : decode cX6_add 29 = .ok (.iastore, 1) := by decide +kernel
theorem dX6_add_30 : decode cX6_add 30 = .ok (.aload_n 0, 1) := by decide +kernel
theorem dX6_add_31 : decode cX6_add 31 = .ok (.dup, 1) := by decide +kernel
theorem dX6_add_32 : decode cX6_add 32 = .ok (.getfield 21, 3) := by decide +kernel
theorem dX6_add_35 : decode cX6_add 35 = .ok (.dup_x1, 1) := by decide +kernel
theorem dX6_add_36 : decode cX6_add 36 = .ok (.iconst 1, 1) := by decide +kernel
theorem dX6_add_37 : decode cX6_add 37 = .ok (.iadd, 1) := by decide +kernel
theorem dX6_add_38 : decode cX6_add 38 = .ok (.putfield 21, 3) := by decide +kernel
theorem dX6_add_41 : decode cX6_add 41 = .ok (.ireturn, 1) := by decide +kernel
theorem dX6_become_0 : decode cX6_become 0 = .ok (.aload_n 1, 1) := by decide +kernel
theorem dX6_become_1 : decode cX6_become 1 = .ok (.getfield 9, 3) := by decide +kernel
theorem dX6_become_4 : decode cX6_become 4 = .ok (.iconst 0, 1) := by decide +kernel
theorem dX6_become_5 : decode cX6_become 5 = .ok (.aload_n 0, 1) := by decide +kernel
theorem dX6_become_6 : decode cX6_become 6 = .ok (.getfield 9, 3) := by decide +kernel
theorem dX6_become_9 : decode cX6_become 9 = .ok (.iconst 0, 1) := by decide +kernel
theorem dX6_become_10 : decode cX6_become 10 = .ok (.bipush 12, 2) := by decide +kernel
theorem dX6_become_12 : decode cX6_become 12 = .ok (.invokestatic 25, 3) := by decide +kernel
theorem dX6_become_15 : decode cX6_become 15 = .ok (.aload_n 1, 1) := by decide +kernel
theorem dX6_become_16 : decode cX6_become 16 = .ok (.getfield 15, 3) := by decide +kernel
theorem dX6_become_19 : decode cX6_become 19 = .ok (.iconst 0, 1) := by decide +kernel
theorem dX6_become_20 : decode cX6_become 20 = .ok (.aload_n 0, 1) := by decide +kernel
theorem dX6_become_21 : decode cX6_become 21 = .ok (.getfield 15, 3) := by decide +kernel
theorem dX6_become_24 : decode cX6_become 24 = .ok (.iconst 0, 1) := by decide +kernel
theorem dX6_become_25 : decode cX6_become 25 = .ok (.bipush 12, 2) := by decide +kernel
theorem dX6_become_27 : decode cX6_become 27 = .ok (.invokestatic 25, 3) := by decide +kernel
theorem dX6_become_30 : decode cX6_become 30 = .ok (.aload_n 1, 1) := by decide +kernel
theorem dX6_become_31 : decode cX6_become 31 = .ok (.getfield 18, 3) := by decide +kernel
theorem dX6_become_34 : decode cX6_become 34 = .ok (.iconst 0, 1) := by decide +kernel
theorem dX6_become_35 : decode cX6_become 35 = .ok (.aload_n 0, 1) := by decide +kernel
theorem dX6_become_36 : decode cX6_become 36 = .ok (.getfield 18, 3) := by decide +kernel
theorem dX6_become_39 : decode cX6_become 39 = .ok (.iconst 0, 1) := by decide +kernel
theorem dX6_become_40 : decode cX6_become 40 = .ok (.bipush 12, 2) := by decide +kernel
theorem dX6_become_42 : decode cX6_become 42 = .ok (.invokestatic 25, 3) := by decide +kernel
theorem dX6_become_45 : decode cX6_become 45 = .ok (.aload_n 0, 1) := by decide +kernel
theorem dX6_become_46 : decode cX6_become 46 = .ok (.aload_n 1, 1) := by decide +kernel
theorem dX6_become_47 : decode cX6_become 47 = .ok (.getfield 21, 3) := by decide +kernel
theorem dX6_become_50 : decode cX6_become 50 = .ok (.putfield 21, 3) := by decide +kernel
theorem dX6_become_53 : decode cX6_become 53 = .ok (.return_, 1) := by decide +kernel
theorem dX6_all_0 : decode cX6_all 0 = .ok (.iconst 1, 1) := by decide +kernel
theorem dX6_all_1 : decode cX6_all 1 = .ok (.aload_n 0, 1) := by decide +kernel
theorem dX6_all_2 : decode cX6_all 2 = .ok (.getfield 21, 3) := by decide +kernel
theorem dX6_all_5 : decode cX6_all 5 = .ok (.ishl, 1) := by decide +kernel
theorem dX6_all_6 : decode cX6_all 6 = .ok (.iconst 1, 1) := by decide +kernel
theorem dX6_all_7 : decode cX6_all 7 = .ok (.isub, 1) := by decide +kernel
theorem dX6_all_8 : decode cX6_all 8 = .ok (.ireturn, 1) := by decide +kernel
theorem dX6_firstShared_0 : decode cX6_firstShared 0 = .ok (.iconst 0, 1) := by decide +kernel
theorem dX6_firstShared_1 : decode cX6_firstShared 1 = .ok (.istore_n 2, 1) := by decide +kernel
theorem dX6_firstShared_2 : decode cX6_firstShared 2 = .ok (.iconst 0, 1) := by decide +kernel
theorem dX6_firstShared_3 : decode cX6_firstShared 3 = .ok (.istore_n 3, 1) := by decide +kernel
theorem dX6_firstShared_4 : decode cX6_firstShared 4 = .ok (.iload_n 3, 1) := by decide +kernel
theorem dX6_firstShared_5 : decode cX6_firstShared 5 = .ok (.aload_n 0, 1) := by decide +kernel
theorem dX6_firstShared_6 : decode cX6_firstShared 6 = .ok (.getfield 21, 3) := by decide +kernel
theorem dX6_firstShared_9 : decode cX6_firstShared 9 = .ok (.if_icmp .ge 29, 3) := by decide +kernel
theorem dX6_firstShared_12 : decode cX6_firstShared 12 = .ok (.iload_n 1, 1) := by decide +kernel
theorem dX6_firstShared_13 : decode cX6_firstShared 13 = .ok (.iload_n 3, 1) := by decide +kernel
theorem dX6_firstShared_14 : decode cX6_firstShared 14 = .ok (.ishr, 1) := by decide +kernel
theorem dX6_firstShared_15 : decode cX6_firstShared 15 = .ok (.iconst 1, 1) := by decide +kernel
theorem dX6_firstShared_16 : decode cX6_firstShared 16 = .ok (.iand, 1) := by decide +kernel
theorem dX6_firstShared_17 : decode cX6_firstShared 17 = .ok (.iconst 1, 1) := by decide +kernel
theorem dX6_firstShared_18 : decode cX6_firstShared 18 = .ok (.if_icmp .ne 14, 3) := by decide +kernel
theorem dX6_firstShared_21 : decode cX6_firstShared 21 = .ok (.iload_n 2, 1) := by decide +kernel
theorem dX6_firstShared_22 : decode cX6_firstShared 22 = .ok (.aload_n 0, 1) := by decide +kernel
theorem dX6_firstShared_23 : decode cX6_firstShared 23 = .ok (.getfield 15, 3) := by decide +kernel
theorem dX6_firstShared_26 : decode cX6_firstShared 26 = .ok (.iload_n 3, 1) := by decide +kernel
theorem dX6_firstShared_27 : decode cX6_firstShared 27 = .ok (.iaload, 1) := by decide +kernel
theorem dX6_firstShared_28 : decode cX6_firstShared 28 = .ok (.invokestatic 31, 3) := by decide +kernel
theorem dX6_firstShared_31 : decode cX6_firstShared 31 = .ok (.istore_n 2, 1) := by decide +kernel
theorem dX6_firstShared_32 : decode cX6_firstShared 32 = .ok (.iinc 3 1, 3) := by decide +kernel
theorem dX6_firstShared_35 : decode cX6_firstShared 35 = .ok (.goto (-31), 3) := by decide +kernel
theorem dX6_firstShared_38 : decode cX6_firstShared 38 = .ok (.iload_n 2, 1) := by decide +kernel
theorem dX6_firstShared_39 : decode cX6_firstShared 39 = .ok (.ireturn, 1) := by decide +kernel
theorem dX6_lastShared_0 : decode cX6_lastShared 0 = .ok (.sipush 9999, 3) := by decide +kernel
theorem dX6_lastShared_3 : decode cX6_lastShared 3 = .ok (.istore_n 2, 1) := by decide +kernel
theorem dX6_lastShared_4 : decode cX6_lastShared 4 = .ok (.iconst 0, 1) := by decide +kernel
theorem dX6_lastShared_5 : decode cX6_lastShared 5 = .ok (.istore_n 3, 1) := by decide +kernel
theorem dX6_lastShared_6 : decode cX6_lastShared 6 = .ok (.iload_n 3, 1) := by decide +kernel
theorem dX6_lastShared_7 : decode cX6_lastShared 7 = .ok (.aload_n 0, 1) := by decide +kernel
theorem dX6_lastShared_8 : decode cX6_lastShared 8 = .ok (.getfield 21, 3) := by decide +kernel
theorem dX6_lastShared_11 : decode cX6_lastShared 11 = .ok (.if_icmp .ge 29, 3) := by decide +kernel
theorem dX6_lastShared_14 : decode cX6_lastShared 14 = .ok (.iload_n 1, 1) := by decide +kernel
theorem dX6_lastShared_15 : decode cX6_lastShared 15 = .ok (.iload_n 3, 1) := by decide +kernel
theorem dX6_lastShared_16 : decode cX6_lastShared 16 = .ok (.ishr, 1) := by decide +kernel
theorem dX6_lastShared_17 : decode cX6_lastShared 17 = .ok (.iconst 1, 1) := by decide +kernel
theorem dX6_lastShared_18 : decode cX6_lastShared 18 = .ok (.iand, 1) := by decide +kernel
theorem dX6_lastShared_19 : decode cX6_lastShared 19 = .ok (.iconst 1, 1) := by decide +kernel
theorem dX6_lastShared_20 : decode cX6_lastShared 20 = .ok (.if_icmp .ne 14, 3) := by decide +kernel
theorem dX6_lastShared_23 : decode cX6_lastShared 23 = .ok (.iload_n 2, 1) := by decide +kernel
theorem dX6_lastShared_24 : decode cX6_lastShared 24 = .ok (.aload_n 0, 1) := by decide +kernel
theorem dX6_lastShared_25 : decode cX6_lastShared 25 = .ok (.getfield 18, 3) := by decide +kernel
theorem dX6_lastShared_28 : decode cX6_lastShared 28 = .ok (.iload_n 3, 1) := by decide +kernel
theorem dX6_lastShared_29 : decode cX6_lastShared 29 = .ok (.iaload, 1) := by decide +kernel
theorem dX6_lastShared_30 : decode cX6_lastShared 30 = .ok (.invokestatic 37, 3) := by decide +kernel
theorem dX6_lastShared_33 : decode cX6_lastShared 33 = .ok (.istore_n 2, 1) := by decide +kernel
theorem dX6_lastShared_34 : decode cX6_lastShared 34 = .ok (.iinc 3 1, 3) := by decide +kernel
theorem dX6_lastShared_37 : decode cX6_lastShared 37 = .ok (.goto (-31), 3) := by decide +kernel
theorem dX6_lastShared_40 : decode cX6_lastShared 40 = .ok (.iload_n 2, 1) := by decide +kernel
theorem dX6_lastShared_41 : decode cX6_lastShared 41 = .ok (.ireturn, 1) := by decide +kernel
set_option maxRecDepth 20000 in
theorem ggX6_sheetsAt_X11_within : GoodIn wsX6_sheetsAt wsX11_within := goodIn_r _ [6] (by decide +kernel) (by decide +kernel)
set_option maxRecDepth 20000 in
theorem gX6_sheetsAt_X11_within_n40 : GoodIn wsX6_sheetsAt (wsX11_within) := ggX6_sheetsAt_X11_within
theorem dX6_sheetsAt_0 : decode cX6_sheetsAt 0 = .ok (.iconst 0, 1) := by decide +kernel
theorem dX6_sheetsAt_1 : decode cX6_sheetsAt 1 = .ok (.istore_n 2, 1) := by decide +kernel
theorem dX6_sheetsAt_2 : decode cX6_sheetsAt 2 = .ok (.iconst 0, 1) := by decide +kernel
theorem dX6_sheetsAt_3 : decode cX6_sheetsAt 3 = .ok (.istore_n 3, 1) := by decide +kernel
theorem dX6_sheetsAt_4 : decode cX6_sheetsAt 4 = .ok (.iload_n 3, 1) := by decide +kernel
theorem dX6_sheetsAt_5 : decode cX6_sheetsAt 5 = .ok (.aload_n 0, 1) := by decide +kernel
theorem dX6_sheetsAt_6 : decode cX6_sheetsAt 6 = .ok (.getfield 21, 3) := by decide +kernel
theorem dX6_sheetsAt_9 : decode cX6_sheetsAt 9 = .ok (.if_icmp .ge 34, 3) := by decide +kernel
theorem dX6_sheetsAt_12 : decode cX6_sheetsAt 12 = .ok (.iload_n 1, 1) := by decide +kernel
theorem dX6_sheetsAt_13 : decode cX6_sheetsAt 13 = .ok (.aload_n 0, 1) := by decide +kernel
theorem dX6_sheetsAt_14 : decode cX6_sheetsAt 14 = .ok (.getfield 15, 3) := by decide +kernel
theorem dX6_sheetsAt_17 : decode cX6_sheetsAt 17 = .ok (.iload_n 3, 1) := by decide +kernel
theorem dX6_sheetsAt_18 : decode cX6_sheetsAt 18 = .ok (.iaload, 1) := by decide +kernel
theorem dX6_sheetsAt_19 : decode cX6_sheetsAt 19 = .ok (.aload_n 0, 1) := by decide +kernel
theorem dX6_sheetsAt_20 : decode cX6_sheetsAt 20 = .ok (.getfield 18, 3) := by decide +kernel
theorem dX6_sheetsAt_23 : decode cX6_sheetsAt 23 = .ok (.iload_n 3, 1) := by decide +kernel
theorem dX6_sheetsAt_24 : decode cX6_sheetsAt 24 = .ok (.iaload, 1) := by decide +kernel
theorem dX6_sheetsAt_25 : decode cX6_sheetsAt 25 = .ok (.invokestatic 40, 3) := by decide +kernel
theorem dX6_sheetsAt_28 : decode cX6_sheetsAt 28 = .ok (.ifCond .eq 9, 3) := by decide +kernel
theorem dX6_sheetsAt_31 : decode cX6_sheetsAt 31 = .ok (.iload_n 2, 1) := by decide +kernel
theorem dX6_sheetsAt_32 : decode cX6_sheetsAt 32 = .ok (.iconst 1, 1) := by decide +kernel
theorem dX6_sheetsAt_33 : decode cX6_sheetsAt 33 = .ok (.iload_n 3, 1) := by decide +kernel
theorem dX6_sheetsAt_34 : decode cX6_sheetsAt 34 = .ok (.ishl, 1) := by decide +kernel
theorem dX6_sheetsAt_35 : decode cX6_sheetsAt 35 = .ok (.ior, 1) := by decide +kernel
theorem dX6_sheetsAt_36 : decode cX6_sheetsAt 36 = .ok (.istore_n 2, 1) := by decide +kernel
theorem dX6_sheetsAt_37 : decode cX6_sheetsAt 37 = .ok (.iinc 3 1, 3) := by decide +kernel
theorem dX6_sheetsAt_40 : decode cX6_sheetsAt 40 = .ok (.goto (-36), 3) := by decide +kernel
theorem dX6_sheetsAt_43 : decode cX6_sheetsAt 43 = .ok (.iload_n 2, 1) := by decide +kernel
theorem dX6_sheetsAt_44 : decode cX6_sheetsAt 44 = .ok (.ireturn, 1) := by decide +kernel
theorem dX6_marshesOf_0 : decode cX6_marshesOf 0 = .ok (.iconst 0, 1) := by decide +kernel
theorem dX6_marshesOf_1 : decode cX6_marshesOf 1 = .ok (.istore_n 2, 1) := by decide +kernel
theorem dX6_marshesOf_2 : decode cX6_marshesOf 2 = .ok (.iconst 0, 1) := by decide +kernel
theorem dX6_marshesOf_3 : decode cX6_marshesOf 3 = .ok (.istore_n 3, 1) := by decide +kernel
theorem dX6_marshesOf_4 : decode cX6_marshesOf 4 = .ok (.iload_n 3, 1) := by decide +kernel
theorem dX6_marshesOf_5 : decode cX6_marshesOf 5 = .ok (.aload_n 0, 1) := by decide +kernel
theorem dX6_marshesOf_6 : decode cX6_marshesOf 6 = .ok (.getfield 21, 3) := by decide +kernel
theorem dX6_marshesOf_9 : decode cX6_marshesOf 9 = .ok (.if_icmp .ge 29, 3) := by decide +kernel
theorem dX6_marshesOf_12 : decode cX6_marshesOf 12 = .ok (.iload_n 1, 1) := by decide +kernel
theorem dX6_marshesOf_13 : decode cX6_marshesOf 13 = .ok (.iload_n 3, 1) := by decide +kernel
theorem dX6_marshesOf_14 : decode cX6_marshesOf 14 = .ok (.ishr, 1) := by decide +kernel
theorem dX6_marshesOf_15 : decode cX6_marshesOf 15 = .ok (.iconst 1, 1) := by decide +kernel
theorem dX6_marshesOf_16 : decode cX6_marshesOf 16 = .ok (.iand, 1) := by decide +kernel
theorem dX6_marshesOf_17 : decode cX6_marshesOf 17 = .ok (.iconst 1, 1) := by decide +kernel
theorem dX6_marshesOf_18 : decode cX6_marshesOf 18 = .ok (.if_icmp .ne 14, 3) := by decide +kernel
theorem dX6_marshesOf_21 : decode cX6_marshesOf 21 = .ok (.iload_n 2, 1) := by decide +kernel
theorem dX6_marshesOf_22 : decode cX6_marshesOf 22 = .ok (.iconst 1, 1) := by decide +kernel
theorem dX6_marshesOf_23 : decode cX6_marshesOf 23 = .ok (.aload_n 0, 1) := by decide +kernel
theorem dX6_marshesOf_24 : decode cX6_marshesOf 24 = .ok (.getfield 9, 3) := by decide +kernel
theorem dX6_marshesOf_27 : decode cX6_marshesOf 27 = .ok (.iload_n 3, 1) := by decide +kernel
theorem dX6_marshesOf_28 : decode cX6_marshesOf 28 = .ok (.iaload, 1) := by decide +kernel
theorem dX6_marshesOf_29 : decode cX6_marshesOf 29 = .ok (.ishl, 1) := by decide +kernel
theorem dX6_marshesOf_30 : decode cX6_marshesOf 30 = .ok (.ior, 1) := by decide +kernel
theorem dX6_marshesOf_31 : decode cX6_marshesOf 31 = .ok (.istore_n 2, 1) := by decide +kernel
theorem dX6_marshesOf_32 : decode cX6_marshesOf 32 = .ok (.iinc 3 1, 3) := by decide +kernel
theorem dX6_marshesOf_35 : decode cX6_marshesOf 35 = .ok (.goto (-31), 3) := by decide +kernel
theorem dX6_marshesOf_38 : decode cX6_marshesOf 38 = .ok (.iload_n 2, 1) := by decide +kernel
theorem dX6_marshesOf_39 : decode cX6_marshesOf 39 = .ok (.ireturn, 1) := by decide +kernel
set_option maxRecDepth 20000 in
theorem ggX6_marshesAt_X6_sheetsAt : GoodIn wsX6_marshesAt wsX6_sheetsAt := goodIn_r _ [5, 6, 7, 8, 9, 10, 11, 17, 18, 19, 20] (by decide +kernel) (by decide +kernel)
set_option maxRecDepth 20000 in
theorem gX6_marshesAt_X6_sheetsAt : GoodIn wsX6_marshesAt (wsV RX6 44 RX6 yX6_sheetsAt wsX6_sheetsAt) := goodIn_app (goodIn_of _ (by decide +kernel)) ggX6_marshesAt_X6_sheetsAt
set_option maxRecDepth 20000 in
theorem ggX6_marshesAt_X6_marshesOf : GoodIn wsX6_marshesAt wsX6_marshesOf := goodIn_r _ [15, 6, 16, 17, 18, 19, 20] (by decide +kernel) (by decide +kernel)
set_option maxRecDepth 20000 in
theorem gX6_marshesAt_X6_marshesOf : GoodIn wsX6_marshesAt (wsV RX6 48 RX6 yX6_marshesOf wsX6_marshesOf) := goodIn_app (goodIn_of _ (by decide +kernel)) ggX6_marshesAt_X6_marshesOf
theorem dX6_marshesAt_0 : decode cX6_marshesAt 0 = .ok (.aload_n 0, 1) := by decide +kernel
theorem dX6_marshesAt_1 : decode cX6_marshesAt 1 = .ok (.aload_n 0, 1) := by decide +kernel
theorem dX6_marshesAt_2 : decode cX6_marshesAt 2 = .ok (.iload_n 1, 1) := by decide +kernel
theorem dX6_marshesAt_3 : decode cX6_marshesAt 3 = .ok (.invokevirtual 44, 3) := by decide +kernel
theorem dX6_marshesAt_6 : decode cX6_marshesAt 6 = .ok (.invokevirtual 48, 3) := by decide +kernel
theorem dX6_marshesAt_9 : decode cX6_marshesAt 9 = .ok (.ireturn, 1) := by decide +kernel
set_option maxRecDepth 20000 in
theorem ggX6_fewestYears_X6_all : GoodIn wsX6_fewestYears wsX6_all := goodIn_r _ [5, 6, 24, 25, 26, 27] (by decide +kernel) (by decide +kernel)
set_option maxRecDepth 20000 in
theorem gX6_fewestYears_X6_all : GoodIn wsX6_fewestYears (wsV RX6 51 RX6 yX6_all wsX6_all) := goodIn_app (goodIn_of _ (by decide +kernel)) ggX6_fewestYears_X6_all
set_option maxRecDepth 20000 in
theorem ggX6_fewestYears_X6_lastShared : GoodIn wsX6_fewestYears wsX6_lastShared := goodIn_r _ [10, 6, 11, 12, 13, 14, 15, 24, 25, 26, 27] (by decide +kernel) (by decide +kernel)
set_option maxRecDepth 20000 in
theorem gX6_fewestYears_X6_lastShared : GoodIn wsX6_fewestYears (wsV RX6 55 RX6 yX6_lastShared wsX6_lastShared) := goodIn_app (goodIn_of _ (by decide +kernel)) ggX6_fewestYears_X6_lastShared
set_option maxRecDepth 20000 in
theorem ggX6_fewestYears_X6_sheetsAt : GoodIn wsX6_fewestYears wsX6_sheetsAt := goodIn_r _ [19, 6, 20, 11, 21, 22, 23, 24, 25, 26, 27] (by decide +kernel) (by decide +kernel)
set_option maxRecDepth 20000 in
theorem gX6_fewestYears_X6_sheetsAt : GoodIn wsX6_fewestYears (wsV RX6 44 RX6 yX6_sheetsAt wsX6_sheetsAt) := goodIn_app (goodIn_of _ (by decide +kernel)) ggX6_fewestYears_X6_sheetsAt
theorem dX6_fewestYears_0 : decode cX6_fewestYears 0 = .ok (.aload_n 0, 1) := by decide +kernel
theorem dX6_fewestYears_1 : decode cX6_fewestYears 1 = .ok (.invokevirtual 51, 3) := by decide +kernel
theorem dX6_fewestYears_4 : decode cX6_fewestYears 4 = .ok (.istore_n 1, 1) := by decide +kernel
theorem dX6_fewestYears_5 : decode cX6_fewestYears 5 = .ok (.iconst 0, 1) := by decide +kernel
theorem dX6_fewestYears_6 : decode cX6_fewestYears 6 = .ok (.istore_n 2, 1) := by decide +kernel
theorem dX6_fewestYears_7 : decode cX6_fewestYears 7 = .ok (.iconst 0, 1) := by decide +kernel
theorem dX6_fewestYears_8 : decode cX6_fewestYears 8 = .ok (.istore_n 3, 1) := by decide +kernel
theorem dX6_fewestYears_9 : decode cX6_fewestYears 9 = .ok (.iload_n 3, 1) := by decide +kernel
theorem dX6_fewestYears_10 : decode cX6_fewestYears 10 = .ok (.bipush 12, 2) := by decide +kernel
theorem dX6_fewestYears_12 : decode cX6_fewestYears 12 = .ok (.if_icmp .ge 30, 3) := by decide +kernel
theorem dX6_fewestYears_15 : decode cX6_fewestYears 15 = .ok (.iload_n 1, 1) := by decide +kernel
theorem dX6_fewestYears_16 : decode cX6_fewestYears 16 = .ok (.ifCond .eq 26, 3) := by decide +kernel
theorem dX6_fewestYears_19 : decode cX6_fewestYears 19 = .ok (.iload_n 1, 1) := by decide +kernel
theorem dX6_fewestYears_20 : decode cX6_fewestYears 20 = .ok (.aload_n 0, 1) := by decide +kernel
theorem dX6_fewestYears_21 : decode cX6_fewestYears 21 = .ok (.aload_n 0, 1) := by decide +kernel
theorem dX6_fewestYears_22 : decode cX6_fewestYears 22 = .ok (.iload_n 1, 1) := by decide +kernel
theorem dX6_fewestYears_23 : decode cX6_fewestYears 23 = .ok (.invokevirtual 55, 3) := by decide +kernel
theorem dX6_fewestYears_26 : decode cX6_fewestYears 26 = .ok (.invokevirtual 44, 3) := by decide +kernel
theorem dX6_fewestYears_29 : decode cX6_fewestYears 29 = .ok (.iconst (-1), 1) := by decide +kernel
theorem dX6_fewestYears_30 : decode cX6_fewestYears 30 = .ok (.ixor, 1) := by decide +kernel
theorem dX6_fewestYears_31 : decode cX6_fewestYears 31 = .ok (.iand, 1) := by decide +kernel
theorem dX6_fewestYears_32 : decode cX6_fewestYears 32 = .ok (.istore_n 1, 1) := by decide +kernel
theorem dX6_fewestYears_33 : decode cX6_fewestYears 33 = .ok (.iinc 2 1, 3) := by decide +kernel
theorem dX6_fewestYears_36 : decode cX6_fewestYears 36 = .ok (.iinc 3 1, 3) := by decide +kernel
theorem dX6_fewestYears_39 : decode cX6_fewestYears 39 = .ok (.goto (-30), 3) := by decide +kernel
theorem dX6_fewestYears_42 : decode cX6_fewestYears 42 = .ok (.iload_n 2, 1) := by decide +kernel
theorem dX6_fewestYears_43 : decode cX6_fewestYears 43 = .ok (.ireturn, 1) := by decide +kernel
theorem dX6_mostOfOneMarsh_0 : decode cX6_mostOfOneMarsh 0 = .ok (.iconst 0, 1) := by decide +kernel
theorem dX6_mostOfOneMarsh_1 : decode cX6_mostOfOneMarsh 1 = .ok (.istore_n 1, 1) := by decide +kernel
theorem dX6_mostOfOneMarsh_2 : decode cX6_mostOfOneMarsh 2 = .ok (.iconst 0, 1) := by decide +kernel
theorem dX6_mostOfOneMarsh_3 : decode cX6_mostOfOneMarsh 3 = .ok (.istore_n 2, 1) := by decide +kernel
theorem dX6_mostOfOneMarsh_4 : decode cX6_mostOfOneMarsh 4 = .ok (.iload_n 2, 1) := by decide +kernel
theorem dX6_mostOfOneMarsh_5 : decode cX6_mostOfOneMarsh 5 = .ok (.bipush 6, 2) := by decide +kernel
theorem dX6_mostOfOneMarsh_7 : decode cX6_mostOfOneMarsh 7 = .ok (.if_icmp .ge 49, 3) := by decide +kernel
theorem dX6_mostOfOneMarsh_10 : decode cX6_mostOfOneMarsh 10 = .ok (.iconst 0, 1) := by decide +kernel
theorem dX6_mostOfOneMarsh_11 : decode cX6_mostOfOneMarsh 11 = .ok (.istore_n 3, 1) := by decide +kernel
theorem dX6_mostOfOneMarsh_12 : decode cX6_mostOfOneMarsh 12 = .ok (.iconst 0, 1) := by decide +kernel
theorem dX6_mostOfOneMarsh_13 : decode cX6_mostOfOneMarsh 13 = .ok (.istore 4, 2) := by decide +kernel
theorem dX6_mostOfOneMarsh_15 : decode cX6_mostOfOneMarsh 15 = .ok (.iload 4, 2) := by decide +kernel
theorem dX6_mostOfOneMarsh_17 : decode cX6_mostOfOneMarsh 17 = .ok (.aload_n 0, 1) := by decide +kernel
theorem dX6_mostOfOneMarsh_18 : decode cX6_mostOfOneMarsh 18 = .ok (.getfield 21, 3) := by decide +kernel
theorem dX6_mostOfOneMarsh_21 : decode cX6_mostOfOneMarsh 21 = .ok (.if_icmp .ge 23, 3) := by decide +kernel
theorem dX6_mostOfOneMarsh_24 : decode cX6_mostOfOneMarsh 24 = .ok (.aload_n 0, 1) := by decide +kernel
theorem dX6_mostOfOneMarsh_25 : decode cX6_mostOfOneMarsh 25 = .ok (.getfield 9, 3) := by decide +kernel
theorem dX6_mostOfOneMarsh_28 : decode cX6_mostOfOneMarsh 28 = .ok (.iload 4, 2) := by decide +kernel
theorem dX6_mostOfOneMarsh_30 : decode cX6_mostOfOneMarsh 30 = .ok (.iaload, 1) := by decide +kernel
theorem dX6_mostOfOneMarsh_31 : decode cX6_mostOfOneMarsh 31 = .ok (.iload_n 2, 1) := by decide +kernel
theorem dX6_mostOfOneMarsh_32 : decode cX6_mostOfOneMarsh 32 = .ok (.if_icmp .ne 6, 3) := by decide +kernel
theorem dX6_mostOfOneMarsh_35 : decode cX6_mostOfOneMarsh 35 = .ok (.iinc 3 1, 3) := by decide +kernel
theorem dX6_mostOfOneMarsh_38 : decode cX6_mostOfOneMarsh 38 = .ok (.iinc 4 1, 3) := by decide +kernel
theorem dX6_mostOfOneMarsh_41 : decode cX6_mostOfOneMarsh 41 = .ok (.goto (-26), 3) := by decide +kernel
theorem dX6_mostOfOneMarsh_44 : decode cX6_mostOfOneMarsh 44 = .ok (.iload_n 1, 1) := by decide +kernel
theorem dX6_mostOfOneMarsh_45 : decode cX6_mostOfOneMarsh 45 = .ok (.iload_n 3, 1) := by decide +kernel
theorem dX6_mostOfOneMarsh_46 : decode cX6_mostOfOneMarsh 46 = .ok (.invokestatic 31, 3) := by decide +kernel
theorem dX6_mostOfOneMarsh_49 : decode cX6_mostOfOneMarsh 49 = .ok (.istore_n 1, 1) := by decide +kernel
theorem dX6_mostOfOneMarsh_50 : decode cX6_mostOfOneMarsh 50 = .ok (.iinc 2 1, 3) := by decide +kernel
theorem dX6_mostOfOneMarsh_53 : decode cX6_mostOfOneMarsh 53 = .ok (.goto (-49), 3) := by decide +kernel
theorem dX6_mostOfOneMarsh_56 : decode cX6_mostOfOneMarsh 56 = .ok (.iload_n 1, 1) := by decide +kernel
theorem dX6_mostOfOneMarsh_57 : decode cX6_mostOfOneMarsh 57 = .ok (.ireturn, 1) := by decide +kernel
set_option maxRecDepth 20000 in
theorem ggX6_widestYear_X6_marshesAt : GoodIn wsX6_widestYear wsX6_marshesAt := goodIn_r _ [7, 8, 9, 10, 6, 11, 1, 2, 12, 13, 14, 15, 16, 17, 18, 19, 20, 28, 29, 30, 31] (by decide +kernel) (by decide +kernel)
set_option maxRecDepth 20000 in
theorem gX6_widestYear_X6_marshesAt : GoodIn wsX6_widestYear (wsV RX6 58 RX6 yX6_marshesAt wsX6_marshesAt) := goodIn_app (goodIn_of _ (by decide +kernel)) ggX6_widestYear_X6_marshesAt
set_option maxRecDepth 20000 in
theorem ggX6_widestYear_J6_bitCount_0f7a4 : GoodIn wsX6_widestYear wsJ6_bitCount_0f7a4 := goodIn_r _ [24, 25, 26, 27] (by decide +kernel) (by decide +kernel)
set_option maxRecDepth 20000 in
theorem gX6_widestYear_J6_bitCount_0f7a4 : GoodIn wsX6_widestYear (va_wsS RX6 61 yJ6_bitCount_0f7a4 wsJ6_bitCount_0f7a4) := goodIn_app (goodIn_of _ (by decide +kernel)) ggX6_widestYear_J6_bitCount_0f7a4
theorem dX6_widestYear_0 : decode cX6_widestYear 0 = .ok (.bipush (-9), 2) := by decide +kernel
theorem dX6_widestYear_2 : decode cX6_widestYear 2 = .ok (.istore_n 1, 1) := by decide +kernel
theorem dX6_widestYear_3 : decode cX6_widestYear 3 = .ok (.iconst 0, 1) := by decide +kernel
theorem dX6_widestYear_4 : decode cX6_widestYear 4 = .ok (.istore_n 2, 1) := by decide +kernel
theorem dX6_widestYear_5 : decode cX6_widestYear 5 = .ok (.iconst 0, 1) := by decide +kernel
theorem dX6_widestYear_6 : decode cX6_widestYear 6 = .ok (.istore_n 3, 1) := by decide +kernel
theorem dX6_widestYear_7 : decode cX6_widestYear 7 = .ok (.iload_n 3, 1) := by decide +kernel
theorem dX6_widestYear_8 : decode cX6_widestYear 8 = .ok (.aload_n 0, 1) := by decide +kernel
theorem dX6_widestYear_9 : decode cX6_widestYear 9 = .ok (.getfield 21, 3) := by decide +kernel
theorem dX6_widestYear_12 : decode cX6_widestYear 12 = .ok (.if_icmp .ge 56, 3) := by decide +kernel
theorem dX6_widestYear_15 : decode cX6_widestYear 15 = .ok (.aload_n 0, 1) := by decide +kernel
theorem dX6_widestYear_16 : decode cX6_widestYear 16 = .ok (.aload_n 0, 1) := by decide +kernel
theorem dX6_widestYear_17 : decode cX6_widestYear 17 = .ok (.getfield 15, 3) := by decide +kernel
theorem dX6_widestYear_20 : decode cX6_widestYear 20 = .ok (.iload_n 3, 1) := by decide +kernel
theorem dX6_widestYear_21 : decode cX6_widestYear 21 = .ok (.iaload, 1) := by decide +kernel
theorem dX6_widestYear_22 : decode cX6_widestYear 22 = .ok (.invokevirtual 58, 3) := by decide +kernel
theorem dX6_widestYear_25 : decode cX6_widestYear 25 = .ok (.invokestatic 61, 3) := by decide +kernel
theorem dX6_widestYear_28 : decode cX6_widestYear 28 = .ok (.istore 4, 2) := by decide +kernel
theorem dX6_widestYear_30 : decode cX6_widestYear 30 = .ok (.iload 4, 2) := by decide +kernel
theorem dX6_widestYear_32 : decode cX6_widestYear 32 = .ok (.iload_n 2, 1) := by decide +kernel
theorem dX6_widestYear_33 : decode cX6_widestYear 33 = .ok (.if_icmp .gt 19, 3) := by decide +kernel
theorem dX6_widestYear_36 : decode cX6_widestYear 36 = .ok (.iload 4, 2) := by decide +kernel
theorem dX6_widestYear_38 : decode cX6_widestYear 38 = .ok (.iload_n 2, 1) := by decide +kernel
theorem dX6_widestYear_39 : decode cX6_widestYear 39 = .ok (.if_icmp .ne 23, 3) := by decide +kernel
theorem dX6_widestYear_42 : decode cX6_widestYear 42 = .ok (.aload_n 0, 1) := by decide +kernel
theorem dX6_widestYear_43 : decode cX6_widestYear 43 = .ok (.getfield 15, 3) := by decide +kernel
theorem dX6_widestYear_46 : decode cX6_widestYear 46 = .ok (.iload_n 3, 1) := by decide +kernel
theorem dX6_widestYear_47 : decode cX6_widestYear 47 = .ok (.iaload, 1) := by decide +kernel
theorem dX6_widestYear_48 : decode cX6_widestYear 48 = .ok (.iload_n 1, 1) := by decide +kernel
theorem dX6_widestYear_49 : decode cX6_widestYear 49 = .ok (.if_icmp .ge 13, 3) := by decide +kernel
theorem dX6_widestYear_52 : decode cX6_widestYear 52 = .ok (.iload 4, 2) := by decide +kernel
theorem dX6_widestYear_54 : decode cX6_widestYear 54 = .ok (.istore_n 2, 1) := by decide +kernel
theorem dX6_widestYear_55 : decode cX6_widestYear 55 = .ok (.aload_n 0, 1) := by decide +kernel
theorem dX6_widestYear_56 : decode cX6_widestYear 56 = .ok (.getfield 15, 3) := by decide +kernel
theorem dX6_widestYear_59 : decode cX6_widestYear 59 = .ok (.iload_n 3, 1) := by decide +kernel
theorem dX6_widestYear_60 : decode cX6_widestYear 60 = .ok (.iaload, 1) := by decide +kernel
theorem dX6_widestYear_61 : decode cX6_widestYear 61 = .ok (.istore_n 1, 1) := by decide +kernel
theorem dX6_widestYear_62 : decode cX6_widestYear 62 = .ok (.iinc 3 1, 3) := by decide +kernel
theorem dX6_widestYear_65 : decode cX6_widestYear 65 = .ok (.goto (-58), 3) := by decide +kernel
theorem dX6_widestYear_68 : decode cX6_widestYear 68 = .ok (.iload_n 1, 1) := by decide +kernel
theorem dX6_widestYear_69 : decode cX6_widestYear 69 = .ok (.ireturn, 1) := by decide +kernel
theorem dX6_companions_0 : decode cX6_companions 0 = .ok (.iconst 0, 1) := by decide +kernel
theorem dX6_companions_1 : decode cX6_companions 1 = .ok (.istore_n 2, 1) := by decide +kernel
theorem dX6_companions_2 : decode cX6_companions 2 = .ok (.iconst 0, 1) := by decide +kernel
theorem dX6_companions_3 : decode cX6_companions 3 = .ok (.istore_n 3, 1) := by decide +kernel
theorem dX6_companions_4 : decode cX6_companions 4 = .ok (.iload_n 3, 1) := by decide +kernel
theorem dX6_companions_5 : decode cX6_companions 5 = .ok (.aload_n 0, 1) := by decide +kernel
theorem dX6_companions_6 : decode cX6_companions 6 = .ok (.getfield 21, 3) := by decide +kernel
theorem dX6_companions_9 : decode cX6_companions 9 = .ok (.if_icmp .ge 42, 3) := by decide +kernel
theorem dX6_companions_12 : decode cX6_companions 12 = .ok (.aload_n 0, 1) := by decide +kernel
theorem dX6_companions_13 : decode cX6_companions 13 = .ok (.getfield 15, 3) := by decide +kernel
theorem dX6_companions_16 : decode cX6_companions 16 = .ok (.iload_n 3, 1) := by decide +kernel
theorem dX6_companions_17 : decode cX6_companions 17 = .ok (.iaload, 1) := by decide +kernel
theorem dX6_companions_18 : decode cX6_companions 18 = .ok (.aload_n 0, 1) := by decide +kernel
theorem dX6_companions_19 : decode cX6_companions 19 = .ok (.getfield 18, 3) := by decide +kernel
theorem dX6_companions_22 : decode cX6_companions 22 = .ok (.iload_n 1, 1) := by decide +kernel
theorem dX6_companions_23 : decode cX6_companions 23 = .ok (.iaload, 1) := by decide +kernel
theorem dX6_companions_24 : decode cX6_companions 24 = .ok (.if_icmp .gt 21, 3) := by decide +kernel
theorem dX6_companions_27 : decode cX6_companions 27 = .ok (.aload_n 0, 1) := by decide +kernel
theorem dX6_companions_28 : decode cX6_companions 28 = .ok (.getfield 15, 3) := by decide +kernel
theorem dX6_companions_31 : decode cX6_companions 31 = .ok (.iload_n 1, 1) := by decide +kernel
theorem dX6_companions_32 : decode cX6_companions 32 = .ok (.iaload, 1) := by decide +kernel
theorem dX6_companions_33 : decode cX6_companions 33 = .ok (.aload_n 0, 1) := by decide +kernel
theorem dX6_companions_34 : decode cX6_companions 34 = .ok (.getfield 18, 3) := by decide +kernel
theorem dX6_companions_37 : decode cX6_companions 37 = .ok (.iload_n 3, 1) := by decide +kernel
theorem dX6_companions_38 : decode cX6_companions 38 = .ok (.iaload, 1) := by decide +kernel
theorem dX6_companions_39 : decode cX6_companions 39 = .ok (.if_icmp .gt 6, 3) := by decide +kernel
theorem dX6_companions_42 : decode cX6_companions 42 = .ok (.iinc 2 1, 3) := by decide +kernel
theorem dX6_companions_45 : decode cX6_companions 45 = .ok (.iinc 3 1, 3) := by decide +kernel
theorem dX6_companions_48 : decode cX6_companions 48 = .ok (.goto (-44), 3) := by decide +kernel
theorem dX6_companions_51 : decode cX6_companions 51 = .ok (.iload_n 2, 1) := by decide +kernel
theorem dX6_companions_52 : decode cX6_companions 52 = .ok (.ireturn, 1) := by decide +kernel
theorem dX7_init_0 : decode cX7_init 0 = .ok (.aload_n 0, 1) := by decide +kernel
theorem dX7_init_1 : decode cX7_init 1 = .ok (.invokespecial 1, 3) := by decide +kernel
theorem dX7_init_4 : decode cX7_init 4 = .ok (.aload_n 0, 1) := by decide +kernel
theorem dX7_init_5 : decode cX7_init 5 = .ok (.aload_n 1, 1) := by decide +kernel
theorem dX7_init_6 : decode cX7_init 6 = .ok (.putfield 7, 3) := by decide +kernel
theorem dX7_init_9 : decode cX7_init 9 = .ok (.return_, 1) := by decide +kernel
theorem dX7_asSign_0 : decode cX7_asSign 0 = .ok (.aload_n 0, 1) := by decide +kernel
theorem dX7_asSign_1 : decode cX7_asSign 1 = .ok (.dup, 1) := by decide +kernel
theorem dX7_asSign_2 : decode cX7_asSign 2 = .ok (.getfield 13, 3) := by decide +kernel
theorem dX7_asSign_5 : decode cX7_asSign 5 = .ok (.lconst 1, 1) := by decide +kernel
theorem dX7_asSign_6 : decode cX7_asSign 6 = .ok (.ladd, 1) := by decide +kernel
theorem dX7_asSign_7 : decode cX7_asSign 7 = .ok (.putfield 13, 3) := by decide +kernel
theorem dX7_asSign_10 : decode cX7_asSign 10 = .ok (.aload_n 0, 1) := by decide +kernel
theorem dX7_asSign_11 : decode cX7_asSign 11 = .ok (.getfield 7, 3) := by decide +kernel
theorem dX7_asSign_14 : decode cX7_asSign 14 = .ok (.getfield 17, 3) := by decide +kernel
theorem dX7_asSign_17 : decode cX7_asSign 17 = .ok (.getfield 23, 3) := by decide +kernel
theorem dX7_asSign_20 : decode cX7_asSign 20 = .ok (.iload_n 1, 1) := by decide +kernel
theorem dX7_asSign_21 : decode cX7_asSign 21 = .ok (.iaload, 1) := by decide +kernel
theorem dX7_asSign_22 : decode cX7_asSign 22 = .ok (.iconst 1, 1) := by decide +kernel
theorem dX7_asSign_23 : decode cX7_asSign 23 = .ok (.iadd, 1) := by decide +kernel
theorem dX7_asSign_24 : decode cX7_asSign 24 = .ok (.ireturn, 1) := by decide +kernel
set_option maxRecDepth 20000 in
theorem ggX7_asSheet_X7_asSign : GoodIn wsX7_asSheet wsX7_asSign := goodIn_r _ [8, 1, 3, 17, 18, 19, 20, 21, 22, 23, 24, 25, 26, 27, 28] (by decide +kernel) (by decide +kernel)
set_option maxRecDepth 20000 in
theorem gX7_asSheet_X7_asSign : GoodIn wsX7_asSheet (wsV RX7 31 RX7 yX7_asSign wsX7_asSign) := goodIn_app (goodIn_of _ (by decide +kernel)) ggX7_asSheet_X7_asSign
set_option maxRecDepth 20000 in
theorem ggX7_asSheet_X6_companions : GoodIn wsX7_asSheet wsX6_companions := goodIn_r _ [13, 14, 15, 16, 25, 26, 27, 28] (by decide +kernel) (by decide +kernel)
set_option maxRecDepth 20000 in
theorem gX7_asSheet_X6_companions : GoodIn wsX7_asSheet (wsV RX7 35 RX6 yX6_companions wsX6_companions) := goodIn_app (goodIn_of _ (by decide +kernel)) ggX7_asSheet_X6_companions
theorem dX7_asSheet_0 : decode cX7_asSheet 0 = .ok (.aload_n 0, 1) := by decide +kernel
theorem dX7_asSheet_1 : decode cX7_asSheet 1 = .ok (.dup, 1) := by decide +kernel
theorem dX7_asSheet_2 : decode cX7_asSheet 2 = .ok (.getfield 13, 3) := by decide +kernel
theorem dX7_asSheet_5 : decode cX7_asSheet 5 = .ok (.ldc2_w 29, 3) := by decide +kernel
theorem dX7_asSheet_8 : decode cX7_asSheet 8 = .ok (.ladd, 1) := by decide +kernel
theorem dX7_asSheet_9 : decode cX7_asSheet 9 = .ok (.putfield 13, 3) := by decide +kernel
theorem dX7_asSheet_12 : decode cX7_asSheet 12 = .ok (.aload_n 0, 1) := by decide +kernel
theorem dX7_asSheet_13 : decode cX7_asSheet 13 = .ok (.iload_n 1, 1) := by decide +kernel
theorem dX7_asSheet_14 : decode cX7_asSheet 14 = .ok (.invokevirtual 31, 3) := by decide +kernel
theorem dX7_asSheet_17 : decode cX7_asSheet 17 = .ok (.aload_n 0, 1) := by decide +kernel
theorem dX7_asSheet_18 : decode cX7_asSheet 18 = .ok (.getfield 7, 3) := by decide +kernel
theorem dX7_asSheet_21 : decode cX7_asSheet 21 = .ok (.getfield 17, 3) := by decide +kernel
theorem dX7_asSheet_24 : decode cX7_asSheet 24 = .ok (.iload_n 1, 1) := by decide +kernel
theorem dX7_asSheet_25 : decode cX7_asSheet 25 = .ok (.invokevirtual 35, 3) := by decide +kernel
theorem dX7_asSheet_28 : decode cX7_asSheet 28 = .ok (.iadd, 1) := by decide +kernel
theorem dX7_asSheet_29 : decode cX7_asSheet 29 = .ok (.ireturn, 1) := by decide +kernel
set_option maxRecDepth 20000 in
theorem ggX7_asWritten_X7_asSign : GoodIn wsX7_asWritten wsX7_asSign := goodIn_r _ [8, 1, 3, 9, 10, 11, 12, 13, 14, 15, 16, 23, 24, 25, 26] (by decide +kernel) (by decide +kernel)
set_option maxRecDepth 20000 in
theorem gX7_asWritten_X7_asSign : GoodIn wsX7_asWritten (wsV RX7 31 RX7 yX7_asSign wsX7_asSign) := goodIn_app (goodIn_of _ (by decide +kernel)) ggX7_asWritten_X7_asSign
theorem dX7_asWritten_0 : decode cX7_asWritten 0 = .ok (.aload_n 0, 1) := by decide +kernel
theorem dX7_asWritten_1 : decode cX7_asWritten 1 = .ok (.dup, 1) := by decide +kernel
theorem dX7_asWritten_2 : decode cX7_asWritten 2 = .ok (.getfield 13, 3) := by decide +kernel
theorem dX7_asWritten_5 : decode cX7_asWritten 5 = .ok (.ldc2_w 38, 3) := by decide +kernel
theorem dX7_asWritten_8 : decode cX7_asWritten 8 = .ok (.ladd, 1) := by decide +kernel
theorem dX7_asWritten_9 : decode cX7_asWritten 9 = .ok (.putfield 13, 3) := by decide +kernel
theorem dX7_asWritten_12 : decode cX7_asWritten 12 = .ok (.aload_n 0, 1) := by decide +kernel
theorem dX7_asWritten_13 : decode cX7_asWritten 13 = .ok (.iload_n 1, 1) := by decide +kernel
theorem dX7_asWritten_14 : decode cX7_asWritten 14 = .ok (.invokevirtual 31, 3) := by decide +kernel
theorem dX7_asWritten_17 : decode cX7_asWritten 17 = .ok (.aload_n 0, 1) := by decide +kernel
theorem dX7_asWritten_18 : decode cX7_asWritten 18 = .ok (.getfield 7, 3) := by decide +kernel
theorem dX7_asWritten_21 : decode cX7_asWritten 21 = .ok (.getfield 40, 3) := by decide +kernel
theorem dX7_asWritten_24 : decode cX7_asWritten 24 = .ok (.getfield 44, 3) := by decide +kernel
theorem dX7_asWritten_27 : decode cX7_asWritten 27 = .ok (.iadd, 1) := by decide +kernel
theorem dX7_asWritten_28 : decode cX7_asWritten 28 = .ok (.ireturn, 1) := by decide +kernel
set_option maxRecDepth 20000 in
theorem ggX7_asSlid_X6_all : GoodIn wsX7_asSlid wsX6_all := goodIn_r _ [8, 9, 46, 47, 48, 49] (by decide +kernel) (by decide +kernel)
set_option maxRecDepth 20000 in
theorem gX7_asSlid_X6_all : GoodIn wsX7_asSlid (wsV RX7 52 RX6 yX6_all wsX6_all) := goodIn_app (goodIn_of _ (by decide +kernel)) ggX7_asSlid_X6_all
set_option maxRecDepth 20000 in
theorem ggX7_asSlid_X6_marshesOf : GoodIn wsX7_asSlid wsX6_marshesOf := goodIn_r _ [13, 9, 14, 46, 47, 48, 49] (by decide +kernel) (by decide +kernel)
set_option maxRecDepth 20000 in
theorem gX7_asSlid_X6_marshesOf : GoodIn wsX7_asSlid (wsV RX7 56 RX6 yX6_marshesOf wsX6_marshesOf) := goodIn_app (goodIn_of _ (by decide +kernel)) ggX7_asSlid_X6_marshesOf
set_option maxRecDepth 20000 in
theorem ggX7_asSlid_X7_asSheet : GoodIn wsX7_asSlid wsX7_asSheet := goodIn_r _ [19, 1, 20, 3, 21, 22, 23, 18, 24, 25, 26, 27, 7, 28, 9, 29, 30, 38, 39, 40, 41, 42, 43, 44, 45, 46, 47, 48, 49] (by decide +kernel) (by decide +kernel)
set_option maxRecDepth 20000 in
theorem gX7_asSlid_X7_asSheet : GoodIn wsX7_asSlid (wsV RX7 59 RX7 yX7_asSheet wsX7_asSheet) := goodIn_app (goodIn_of _ (by decide +kernel)) ggX7_asSlid_X7_asSheet
set_option maxRecDepth 20000 in
theorem ggX7_asSlid_J6_bitCount_0f7a4 : GoodIn wsX7_asSlid wsJ6_bitCount_0f7a4 := goodIn_r _ [34, 35, 36, 37] (by decide +kernel) (by decide +kernel)
set_option maxRecDepth 20000 in
theorem gX7_asSlid_J6_bitCount_0f7a4 : GoodIn wsX7_asSlid (va_wsS RX7 62 yJ6_bitCount_0f7a4 wsJ6_bitCount_0f7a4) := goodIn_app (goodIn_of _ (by decide +kernel)) ggX7_asSlid_J6_bitCount_0f7a4
theorem dX7_asSlid_0 : decode cX7_asSlid 0 = .ok (.aload_n 0, 1) := by decide +kernel
theorem dX7_asSlid_1 : decode cX7_asSlid 1 = .ok (.dup, 1) := by decide +kernel
theorem dX7_asSlid_2 : decode cX7_asSlid 2 = .ok (.getfield 13, 3) := by decide +kernel
theorem dX7_asSlid_5 : decode cX7_asSlid 5 = .ok (.ldc2_w 50, 3) := by decide +kernel
theorem dX7_asSlid_8 : decode cX7_asSlid 8 = .ok (.ladd, 1) := by decide +kernel
theorem dX7_asSlid_9 : decode cX7_asSlid 9 = .ok (.putfield 13, 3) := by decide +kernel
theorem dX7_asSlid_12 : decode cX7_asSlid 12 = .ok (.aload_n 0, 1) := by decide +kernel
theorem dX7_asSlid_13 : decode cX7_asSlid 13 = .ok (.getfield 7, 3) := by decide +kernel
theorem dX7_asSlid_16 : decode cX7_asSlid 16 = .ok (.getfield 17, 3) := by decide +kernel
theorem dX7_asSlid_19 : decode cX7_asSlid 19 = .ok (.aload_n 0, 1) := by decide +kernel
theorem dX7_asSlid_20 : decode cX7_asSlid 20 = .ok (.getfield 7, 3) := by decide +kernel
theorem dX7_asSlid_23 : decode cX7_asSlid 23 = .ok (.getfield 17, 3) := by decide +kernel
theorem dX7_asSlid_26 : decode cX7_asSlid 26 = .ok (.invokevirtual 52, 3) := by decide +kernel
theorem dX7_asSlid_29 : decode cX7_asSlid 29 = .ok (.invokevirtual 56, 3) := by decide +kernel
theorem dX7_asSlid_32 : decode cX7_asSlid 32 = .ok (.istore_n 2, 1) := by decide +kernel
theorem dX7_asSlid_33 : decode cX7_asSlid 33 = .ok (.aload_n 0, 1) := by decide +kernel
theorem dX7_asSlid_34 : decode cX7_asSlid 34 = .ok (.iload_n 1, 1) := by decide +kernel
theorem dX7_asSlid_35 : decode cX7_asSlid 35 = .ok (.invokevirtual 59, 3) := by decide +kernel
theorem dX7_asSlid_38 : decode cX7_asSlid 38 = .ok (.iload_n 2, 1) := by decide +kernel
theorem dX7_asSlid_39 : decode cX7_asSlid 39 = .ok (.invokestatic 62, 3) := by decide +kernel
theorem dX7_asSlid_42 : decode cX7_asSlid 42 = .ok (.imul, 1) := by decide +kernel
theorem dX7_asSlid_43 : decode cX7_asSlid 43 = .ok (.ireturn, 1) := by decide +kernel
set_option maxRecDepth 20000 in
theorem ggX7_asTold_X7_asWritten : GoodIn wsX7_asTold wsX7_asWritten := goodIn_r _ [7, 1, 8, 9, 10, 11, 12, 6, 13, 14, 15, 16, 17, 18, 19, 20, 21, 22, 23, 24, 25, 26, 27, 28, 29, 30, 31] (by decide +kernel) (by decide +kernel)
set_option maxRecDepth 20000 in
theorem gX7_asTold_X7_asWritten : GoodIn wsX7_asTold (wsV RX7 69 RX7 yX7_asWritten wsX7_asWritten) := goodIn_app (goodIn_of _ (by decide +kernel)) ggX7_asTold_X7_asWritten
theorem dX7_asTold_0 : decode cX7_asTold 0 = .ok (.aload_n 0, 1) := by decide +kernel
theorem dX7_asTold_1 : decode cX7_asTold 1 = .ok (.dup, 1) := by decide +kernel
theorem dX7_asTold_2 : decode cX7_asTold 2 = .ok (.getfield 13, 3) := by decide +kernel
theorem dX7_asTold_5 : decode cX7_asTold 5 = .ok (.ldc2_w 67, 3) := by decide +kernel
theorem dX7_asTold_8 : decode cX7_asTold 8 = .ok (.ladd, 1) := by decide +kernel
theorem dX7_asTold_9 : decode cX7_asTold 9 = .ok (.putfield 13, 3) := by decide +kernel
theorem dX7_asTold_12 : decode cX7_asTold 12 = .ok (.iconst 2, 1) := by decide +kernel
theorem dX7_asTold_13 : decode cX7_asTold 13 = .ok (.aload_n 0, 1) := by decide +kernel
theorem dX7_asTold_14 : decode cX7_asTold 14 = .ok (.iload_n 1, 1) := by decide +kernel
theorem dX7_asTold_15 : decode cX7_asTold 15 = .ok (.invokevirtual 69, 3) := by decide +kernel
theorem dX7_asTold_18 : decode cX7_asTold 18 = .ok (.imul, 1) := by decide +kernel
theorem dX7_asTold_19 : decode cX7_asTold 19 = .ok (.ireturn, 1) := by decide +kernel
set_option maxRecDepth 20000 in
theorem ggX7_asAged_X7_asSign : GoodIn wsX7_asAged wsX7_asSign := goodIn_r _ [8, 1, 3, 9, 10, 11, 12, 13, 14, 15, 16, 17, 18, 19, 20] (by decide +kernel) (by decide +kernel)
set_option maxRecDepth 20000 in
theorem gX7_asAged_X7_asSign : GoodIn wsX7_asAged (wsV RX7 31 RX7 yX7_asSign wsX7_asSign) := goodIn_app (goodIn_of _ (by decide +kernel)) ggX7_asAged_X7_asSign
theorem dX7_asAged_0 : decode cX7_asAged 0 = .ok (.aload_n 0, 1) := by decide +kernel
theorem dX7_asAged_1 : decode cX7_asAged 1 = .ok (.dup, 1) := by decide +kernel
theorem dX7_asAged_2 : decode cX7_asAged 2 = .ok (.getfield 13, 3) := by decide +kernel
theorem dX7_asAged_5 : decode cX7_asAged 5 = .ok (.ldc2_w 72, 3) := by decide +kernel
theorem dX7_asAged_8 : decode cX7_asAged 8 = .ok (.ladd, 1) := by decide +kernel
theorem dX7_asAged_9 : decode cX7_asAged 9 = .ok (.putfield 13, 3) := by decide +kernel
theorem dX7_asAged_12 : decode cX7_asAged 12 = .ok (.aload_n 0, 1) := by decide +kernel
theorem dX7_asAged_13 : decode cX7_asAged 13 = .ok (.getfield 7, 3) := by decide +kernel
theorem dX7_asAged_16 : decode cX7_asAged 16 = .ok (.getfield 17, 3) := by decide +kernel
theorem dX7_asAged_19 : decode cX7_asAged 19 = .ok (.getfield 74, 3) := by decide +kernel
theorem dX7_asAged_22 : decode cX7_asAged 22 = .ok (.iload_n 1, 1) := by decide +kernel
theorem dX7_asAged_23 : decode cX7_asAged 23 = .ok (.iaload, 1) := by decide +kernel
theorem dX7_asAged_24 : decode cX7_asAged 24 = .ok (.aload_n 0, 1) := by decide +kernel
theorem dX7_asAged_25 : decode cX7_asAged 25 = .ok (.getfield 7, 3) := by decide +kernel
theorem dX7_asAged_28 : decode cX7_asAged 28 = .ok (.getfield 17, 3) := by decide +kernel
theorem dX7_asAged_31 : decode cX7_asAged 31 = .ok (.getfield 77, 3) := by decide +kernel
theorem dX7_asAged_34 : decode cX7_asAged 34 = .ok (.iload_n 1, 1) := by decide +kernel
theorem dX7_asAged_35 : decode cX7_asAged 35 = .ok (.iaload, 1) := by decide +kernel
theorem dX7_asAged_36 : decode cX7_asAged 36 = .ok (.isub, 1) := by decide +kernel
theorem dX7_asAged_37 : decode cX7_asAged 37 = .ok (.iconst 1, 1) := by decide +kernel
theorem dX7_asAged_38 : decode cX7_asAged 38 = .ok (.iadd, 1) := by decide +kernel
theorem dX7_asAged_39 : decode cX7_asAged 39 = .ok (.istore_n 2, 1) := by decide +kernel
theorem dX7_asAged_40 : decode cX7_asAged 40 = .ok (.aload_n 0, 1) := by decide +kernel
theorem dX7_asAged_41 : decode cX7_asAged 41 = .ok (.iload_n 1, 1) := by decide +kernel
theorem dX7_asAged_42 : decode cX7_asAged 42 = .ok (.invokevirtual 31, 3) := by decide +kernel
theorem dX7_asAged_45 : decode cX7_asAged 45 = .ok (.iload_n 2, 1) := by decide +kernel
theorem dX7_asAged_46 : decode cX7_asAged 46 = .ok (.bipush 100, 2) := by decide +kernel
theorem dX7_asAged_48 : decode cX7_asAged 48 = .ok (.idiv, 1) := by decide +kernel
theorem dX7_asAged_49 : decode cX7_asAged 49 = .ok (.isub, 1) := by decide +kernel
theorem dX7_asAged_50 : decode cX7_asAged 50 = .ok (.ireturn, 1) := by decide +kernel
theorem dX8_init_0 : decode cX8_init 0 = .ok (.aload_n 0, 1) := by decide +kernel
theorem dX8_init_1 : decode cX8_init 1 = .ok (.invokespecial 3, 3) := by decide +kernel
theorem dX8_init_4 : decode cX8_init 4 = .ok (.aload_n 0, 1) := by decide +kernel
theorem dX8_init_5 : decode cX8_init 5 = .ok (.iconst 5, 1) := by decide +kernel
theorem dX8_init_6 : decode cX8_init 6 = .ok (.bipush 6, 2) := by decide +kernel
theorem dX8_init_8 : decode cX8_init 8 = .ok (.multianewarray 9 2, 4) := by decide +kernel
theorem dX8_init_12 : decode cX8_init 12 = .ok (.putfield 11, 3) := by decide +kernel
theorem dX8_init_15 : decode cX8_init 15 = .ok (.aload_n 0, 1) := by decide +kernel
theorem dX8_init_16 : decode cX8_init 16 = .ok (.iconst 5, 1) := by decide +kernel
theorem dX8_init_17 : decode cX8_init 17 = .ok (.newarray .long, 2) := by decide +kernel
theorem dX8_init_19 : decode cX8_init 19 = .ok (.putfield 16, 3) := by decide +kernel
theorem dX8_init_22 : decode cX8_init 22 = .ok (.aload_n 0, 1) := by decide +kernel
theorem dX8_init_23 : decode cX8_init 23 = .ok (.aload_n 1, 1) := by decide +kernel
theorem dX8_init_24 : decode cX8_init 24 = .ok (.putfield 20, 3) := by decide +kernel
theorem dX8_init_27 : decode cX8_init 27 = .ok (.iconst 0, 1) := by decide +kernel
theorem dX8_init_28 : decode cX8_init 28 = .ok (.istore_n 2, 1) := by decide +kernel
theorem dX8_init_29 : decode cX8_init 29 = .ok (.iload_n 2, 1) := by decide +kernel
theorem dX8_init_30 : decode cX8_init 30 = .ok (.iconst 5, 1) := by decide +kernel
theorem dX8_init_31 : decode cX8_init 31 = .ok (.if_icmp .ge 32, 3) := by decide +kernel
theorem dX8_init_34 : decode cX8_init 34 = .ok (.iconst 0, 1) := by decide +kernel
theorem dX8_init_35 : decode cX8_init 35 = .ok (.istore_n 3, 1) := by decide +kernel
theorem dX8_init_36 : decode cX8_init 36 = .ok (.iload_n 3, 1) := by decide +kernel
theorem dX8_init_37 : decode cX8_init 37 = .ok (.bipush 6, 2) := by decide +kernel
theorem dX8_init_39 : decode cX8_init 39 = .ok (.if_icmp .ge 18, 3) := by decide +kernel
theorem dX8_init_42 : decode cX8_init 42 = .ok (.aload_n 0, 1) := by decide +kernel
theorem dX8_init_43 : decode cX8_init 43 = .ok (.getfield 11, 3) := by decide +kernel
theorem dX8_init_46 : decode cX8_init 46 = .ok (.iload_n 2, 1) := by decide +kernel
theorem dX8_init_47 : decode cX8_init 47 = .ok (.aaload, 1) := by decide +kernel
theorem dX8_init_48 : decode cX8_init 48 = .ok (.iload_n 3, 1) := by decide +kernel
theorem dX8_init_49 : decode cX8_init 49 = .ok (.iconst 5, 1) := by decide +kernel
theorem dX8_init_50 : decode cX8_init 50 = .ok (.iastore, 1) := by decide +kernel
theorem dX8_init_51 : decode cX8_init 51 = .ok (.iinc 3 1, 3) := by decide +kernel
theorem dX8_init_54 : decode cX8_init 54 = .ok (.goto (-18), 3) := by decide +kernel
theorem dX8_init_57 : decode cX8_init 57 = .ok (.iinc 2 1, 3) := by decide +kernel
theorem dX8_init_60 : decode cX8_init 60 = .ok (.goto (-31), 3) := by decide +kernel
theorem dX8_init_63 : decode cX8_init 63 = .ok (.return_, 1) := by decide +kernel
set_option maxRecDepth 20000 in
theorem ggX8_weigh_X8_weightBehind : GoodIn wsX8_weigh wsX8_weightBehind := goodIn_r _ [7, 8, 9, 13, 14, 15, 16, 17, 18, 19, 20, 21] (by decide +kernel) (by decide +kernel)
set_option maxRecDepth 20000 in
theorem gX8_weigh_X8_weightBehind : GoodIn wsX8_weigh (wsV RX8 24 RX8 yX8_weightBehind wsX8_weightBehind) := goodIn_app (goodIn_of _ (by decide +kernel)) ggX8_weigh_X8_weightBehind
set_option maxRecDepth 20000 in
theorem ggX8_weigh_X11_commonPart : GoodIn wsX8_weigh wsX11_commonPart := goodIn_r _ [12] (by decide +kernel) (by decide +kernel)
set_option maxRecDepth 20000 in
theorem gX8_weigh_X11_commonPart_n28 : GoodIn wsX8_weigh (wsX11_commonPart) := ggX8_weigh_X11_commonPart
theorem dX8_weigh_0 : decode cX8_weigh 0 = .ok (.lconst 0, 1) := by decide +kernel
theorem dX8_weigh_1 : decode cX8_weigh 1 = .ok (.lstore_n 3, 1) := by decide +kernel
theorem dX8_weigh_2 : decode cX8_weigh 2 = .ok (.iconst 0, 1) := by decide +kernel
theorem dX8_weigh_3 : decode cX8_weigh 3 = .ok (.istore 5, 2) := by decide +kernel
theorem dX8_weigh_5 : decode cX8_weigh 5 = .ok (.iload 5, 2) := by decide +kernel
theorem dX8_weigh_7 : decode cX8_weigh 7 = .ok (.iconst 5, 1) := by decide +kernel
theorem dX8_weigh_8 : decode cX8_weigh 8 = .ok (.if_icmp .ge 36, 3) := by decide +kernel
theorem dX8_weigh_11 : decode cX8_weigh 11 = .ok (.aload_n 0, 1) := by decide +kernel
theorem dX8_weigh_12 : decode cX8_weigh 12 = .ok (.getfield 16, 3) := by decide +kernel
theorem dX8_weigh_15 : decode cX8_weigh 15 = .ok (.iload 5, 2) := by decide +kernel
theorem dX8_weigh_17 : decode cX8_weigh 17 = .ok (.aload_n 0, 1) := by decide +kernel
theorem dX8_weigh_18 : decode cX8_weigh 18 = .ok (.iload 5, 2) := by decide +kernel
theorem dX8_weigh_20 : decode cX8_weigh 20 = .ok (.iload_n 1, 1) := by decide +kernel
theorem dX8_weigh_21 : decode cX8_weigh 21 = .ok (.iload_n 2, 1) := by decide +kernel
theorem dX8_weigh_22 : decode cX8_weigh 22 = .ok (.invokevirtual 24, 3) := by decide +kernel
theorem dX8_weigh_25 : decode cX8_weigh 25 = .ok (.lastore, 1) := by decide +kernel
theorem dX8_weigh_26 : decode cX8_weigh 26 = .ok (.lload_n 3, 1) := by decide +kernel
theorem dX8_weigh_27 : decode cX8_weigh 27 = .ok (.aload_n 0, 1) := by decide +kernel
theorem dX8_weigh_28 : decode cX8_weigh 28 = .ok (.getfield 16, 3) := by decide +kernel
theorem dX8_weigh_31 : decode cX8_weigh 31 = .ok (.iload 5, 2) := by decide +kernel
theorem dX8_weigh_33 : decode cX8_weigh 33 = .ok (.laload, 1) := by decide +kernel
theorem dX8_weigh_34 : decode cX8_weigh 34 = .ok (.invokestatic 28, 3) := by decide +kernel
theorem dX8_weigh_37 : decode cX8_weigh 37 = .ok (.lstore_n 3, 1) := by decide +kernel
theorem dX8_weigh_38 : decode cX8_weigh 38 = .ok (.iinc 5 1, 3) := by decide +kernel
theorem dX8_weigh_41 : decode cX8_weigh 41 = .ok (.goto (-36), 3) := by decide +kernel
theorem dX8_weigh_44 : decode cX8_weigh 44 = .ok (.lload_n 3, 1) := by decide +kernel
theorem dX8_weigh_45 : decode cX8_weigh 45 = .ok (.lconst 0, 1) := by decide +kernel
theorem dX8_weigh_46 : decode cX8_weigh 46 = .ok (.lcmp, 1) := by decide +kernel
theorem dX8_weigh_47 : decode cX8_weigh 47 = .ok (.ifCond .ne 6, 3) := by decide +kernel
theorem dX8_weigh_50 : decode cX8_weigh 50 = .ok (.bipush (-2), 2) := by decide +kernel
theorem dX8_weigh_52 : decode cX8_weigh 52 = .ok (.ireturn, 1) := by decide +kernel
theorem dX8_weigh_53 : decode cX8_weigh 53 = .ok (.iconst 0, 1) := by decide +kernel
theorem dX8_weigh_54 : decode cX8_weigh 54 = .ok (.istore 5, 2) := by decide +kernel
theorem dX8_weigh_56 : decode cX8_weigh 56 = .ok (.iload 5, 2) := by decide +kernel
theorem dX8_weigh_58 : decode cX8_weigh 58 = .ok (.iconst 5, 1) := by decide +kernel
theorem dX8_weigh_59 : decode cX8_weigh 59 = .ok (.if_icmp .ge 37, 3) := by decide +kernel
theorem dX8_weigh_62 : decode cX8_weigh 62 = .ok (.aload_n 0, 1) := by decide +kernel
theorem dX8_weigh_63 : decode cX8_weigh 63 = .ok (.getfield 16, 3) := by decide +kernel
theorem dX8_weigh_66 : decode cX8_weigh 66 = .ok (.iload 5, 2) := by decide +kernel
theorem dX8_weigh_68 : decode cX8_weigh 68 = .ok (.dup2, 1) := by decide +kernel
theorem dX8_weigh_69 : decode cX8_weigh 69 = .ok (.laload, 1) := by decide +kernel
theorem dX8_weigh_70 : decode cX8_weigh 70 = .ok (.lload_n 3, 1) := by decide +kernel
theorem dX8_weigh_71 : decode cX8_weigh 71 = .ok (.ldiv, 1) := by decide +kernel
theorem dX8_weigh_72 : decode cX8_weigh 72 = .ok (.lastore, 1) := by decide +kernel
theorem dX8_weigh_73 : decode cX8_weigh 73 = .ok (.aload_n 0, 1) := by decide +kernel
theorem dX8_weigh_74 : decode cX8_weigh 74 = .ok (.getfield 16, 3) := by decide +kernel
theorem dX8_weigh_77 : decode cX8_weigh 77 = .ok (.iload 5, 2) := by decide +kernel
theorem dX8_weigh_79 : decode cX8_weigh 79 = .ok (.laload, 1) := by decide +kernel
theorem dX8_weigh_80 : decode cX8_weigh 80 = .ok (.ldc2_w 32, 3) := by decide +kernel
theorem dX8_weigh_83 : decode cX8_weigh 83 = .ok (.lcmp, 1) := by decide +kernel
theorem dX8_weigh_84 : decode cX8_weigh 84 = .ok (.ifCond .le 6, 3) := by decide +kernel
theorem dX8_weigh_87 : decode cX8_weigh 87 = .ok (.bipush (-3), 2) := by decide +kernel
theorem dX8_weigh_89 : decode cX8_weigh 89 = .ok (.ireturn, 1) := by decide +kernel
theorem dX8_weigh_90 : decode cX8_weigh 90 = .ok (.iinc 5 1, 3) := by decide +kernel
theorem dX8_weigh_93 : decode cX8_weigh 93 = .ok (.goto (-37), 3) := by decide +kernel
theorem dX8_weigh_96 : decode cX8_weigh 96 = .ok (.iconst (-1), 1) := by decide +kernel
theorem dX8_weigh_97 : decode cX8_weigh 97 = .ok (.ireturn, 1) := by decide +kernel
theorem dX8_settle_0 : decode cX8_settle 0 = .ok (.aload_n 0, 1) := by decide +kernel
theorem dX8_settle_1 : decode cX8_settle 1 = .ok (.getfield 16, 3) := by decide +kernel
theorem dX8_settle_4 : decode cX8_settle 4 = .ok (.iconst 0, 1) := by decide +kernel
theorem dX8_settle_5 : decode cX8_settle 5 = .ok (.aload_n 0, 1) := by decide +kernel
theorem dX8_settle_6 : decode cX8_settle 6 = .ok (.getfield 20, 3) := by decide +kernel
theorem dX8_settle_9 : decode cX8_settle 9 = .ok (.getfield 34, 3) := by decide +kernel
theorem dX8_settle_12 : decode cX8_settle 12 = .ok (.iconst 0, 1) := by decide +kernel
theorem dX8_settle_13 : decode cX8_settle 13 = .ok (.iconst 5, 1) := by decide +kernel
theorem dX8_settle_14 : decode cX8_settle 14 = .ok (.invokestatic 39, 3) := by decide +kernel
theorem dX8_settle_17 : decode cX8_settle 17 = .ok (.aload_n 0, 1) := by decide +kernel
theorem dX8_settle_18 : decode cX8_settle 18 = .ok (.getfield 20, 3) := by decide +kernel
theorem dX8_settle_21 : decode cX8_settle 21 = .ok (.dup, 1) := by decide +kernel
theorem dX8_settle_22 : decode cX8_settle 22 = .ok (.getfield 45, 3) := by decide +kernel
theorem dX8_settle_25 : decode cX8_settle 25 = .ok (.iconst 1, 1) := by decide +kernel
theorem dX8_settle_26 : decode cX8_settle 26 = .ok (.iload_n 1, 1) := by decide +kernel
theorem dX8_settle_27 : decode cX8_settle 27 = .ok (.ishl, 1) := by decide +kernel
theorem dX8_settle_28 : decode cX8_settle 28 = .ok (.ior, 1) := by decide +kernel
theorem dX8_settle_29 : decode cX8_settle 29 = .ok (.putfield 45, 3) := by decide +kernel
theorem dX8_settle_32 : decode cX8_settle 32 = .ok (.return_, 1) := by decide +kernel
theorem dX8_weightBehind_0 : decode cX8_weightBehind 0 = .ok (.aload_n 0, 1) := by decide +kernel
theorem dX8_weightBehind_1 : decode cX8_weightBehind 1 = .ok (.getfield 11, 3) := by decide +kernel
theorem dX8_weightBehind_4 : decode cX8_weightBehind 4 = .ok (.iload_n 1, 1) := by decide +kernel
theorem dX8_weightBehind_5 : decode cX8_weightBehind 5 = .ok (.aaload, 1) := by decide +kernel
theorem dX8_weightBehind_6 : decode cX8_weightBehind 6 = .ok (.iload_n 2, 1) := by decide +kernel
theorem dX8_weightBehind_7 : decode cX8_weightBehind 7 = .ok (.iaload, 1) := by decide +kernel
theorem dX8_weightBehind_8 : decode cX8_weightBehind 8 = .ok (.istore 4, 2) := by decide +kernel
theorem dX8_weightBehind_10 : decode cX8_weightBehind 10 = .ok (.aload_n 0, 1) := by decide +kernel
theorem dX8_weightBehind_11 : decode cX8_weightBehind 11 = .ok (.getfield 20, 3) := by decide +kernel
theorem dX8_weightBehind_14 : decode cX8_weightBehind 14 = .ok (.getfield 34, 3) := by decide +kernel
theorem dX8_weightBehind_17 : decode cX8_weightBehind 17 = .ok (.iload_n 1, 1) := by decide +kernel
theorem dX8_weightBehind_18 : decode cX8_weightBehind 18 = .ok (.laload, 1) := by decide +kernel
theorem dX8_weightBehind_19 : decode cX8_weightBehind 19 = .ok (.iload_n 3, 1) := by decide +kernel
theorem dX8_weightBehind_20 : decode cX8_weightBehind 20 = .ok (.iconst 1, 1) := by decide +kernel
theorem dX8_weightBehind_21 : decode cX8_weightBehind 21 = .ok (.if_icmp .ne 8, 3) := by decide +kernel
theorem dX8_weightBehind_24 : decode cX8_weightBehind 24 = .ok (.iload 4, 2) := by decide +kernel
theorem dX8_weightBehind_26 : decode cX8_weightBehind 26 = .ok (.goto 8, 3) := by decide +kernel
theorem dX8_weightBehind_29 : decode cX8_weightBehind 29 = .ok (.bipush 10, 2) := by decide +kernel
theorem dX8_weightBehind_31 : decode cX8_weightBehind 31 = .ok (.iload 4, 2) := by decide +kernel
theorem dX8_weightBehind_33 : decode cX8_weightBehind 33 = .ok (.isub, 1) := by decide +kernel
theorem dX8_weightBehind_34 : decode cX8_weightBehind 34 = .ok (.i2l, 1) := by decide +kernel
theorem dX8_weightBehind_35 : decode cX8_weightBehind 35 = .ok (.lmul, 1) := by decide +kernel
theorem dX8_weightBehind_36 : decode cX8_weightBehind 36 = .ok (.lreturn, 1) := by decide +kernel
set_option maxRecDepth 20000 in
theorem ggX8_greatestBehind_X8_weightBehind : GoodIn wsX8_greatestBehind wsX8_weightBehind := goodIn_r _ [9, 10, 11, 12, 13, 14, 15, 16, 17, 18, 19, 20] (by decide +kernel) (by decide +kernel)
set_option maxRecDepth 20000 in
theorem gX8_greatestBehind_X8_weightBehind : GoodIn wsX8_greatestBehind (wsV RX8 24 RX8 yX8_weightBehind wsX8_weightBehind) := goodIn_app (goodIn_of _ (by decide +kernel)) ggX8_greatestBehind_X8_weightBehind
theorem dX8_greatestBehind_0 : decode cX8_greatestBehind 0 = .ok (.lconst 0, 1) := by decide +kernel
theorem dX8_greatestBehind_1 : decode cX8_greatestBehind 1 = .ok (.lstore_n 3, 1) := by decide +kernel
theorem dX8_greatestBehind_2 : decode cX8_greatestBehind 2 = .ok (.iconst 0, 1) := by decide +kernel
theorem dX8_greatestBehind_3 : decode cX8_greatestBehind 3 = .ok (.istore 5, 2) := by decide +kernel
theorem dX8_greatestBehind_5 : decode cX8_greatestBehind 5 = .ok (.iload 5, 2) := by decide +kernel
theorem dX8_greatestBehind_7 : decode cX8_greatestBehind 7 = .ok (.iconst 5, 1) := by decide +kernel
theorem dX8_greatestBehind_8 : decode cX8_greatestBehind 8 = .ok (.if_icmp .ge 22, 3) := by decide +kernel
theorem dX8_greatestBehind_11 : decode cX8_greatestBehind 11 = .ok (.lload_n 3, 1) := by decide +kernel
theorem dX8_greatestBehind_12 : decode cX8_greatestBehind 12 = .ok (.aload_n 0, 1) := by decide +kernel
theorem dX8_greatestBehind_13 : decode cX8_greatestBehind 13 = .ok (.iload 5, 2) := by decide +kernel
theorem dX8_greatestBehind_15 : decode cX8_greatestBehind 15 = .ok (.iload_n 1, 1) := by decide +kernel
theorem dX8_greatestBehind_16 : decode cX8_greatestBehind 16 = .ok (.iload_n 2, 1) := by decide +kernel
theorem dX8_greatestBehind_17 : decode cX8_greatestBehind 17 = .ok (.invokevirtual 24, 3) := by decide +kernel
theorem dX8_greatestBehind_20 : decode cX8_greatestBehind 20 = .ok (.invokestatic 49, 3) := by decide +kernel
theorem dX8_greatestBehind_23 : decode cX8_greatestBehind 23 = .ok (.lstore_n 3, 1) := by decide +kernel
theorem dX8_greatestBehind_24 : decode cX8_greatestBehind 24 = .ok (.iinc 5 1, 3) := by decide +kernel
theorem dX8_greatestBehind_27 : decode cX8_greatestBehind 27 = .ok (.goto (-22), 3) := by decide +kernel
theorem dX8_greatestBehind_30 : decode cX8_greatestBehind 30 = .ok (.lload_n 3, 1) := by decide +kernel
theorem dX8_greatestBehind_31 : decode cX8_greatestBehind 31 = .ok (.lreturn, 1) := by decide +kernel
set_option maxRecDepth 20000 in
theorem ggX8_bestMarsh_X2_isDug : GoodIn wsX8_bestMarsh wsX2_isDug := goodIn_r _ [7, 8, 26, 27, 28, 29, 30, 31] (by decide +kernel) (by decide +kernel)
set_option maxRecDepth 20000 in
theorem gX8_bestMarsh_X2_isDug : GoodIn wsX8_bestMarsh (wsV RX8 56 RX2 yX2_isDug wsX2_isDug) := goodIn_app (goodIn_of _ (by decide +kernel)) ggX8_bestMarsh_X2_isDug
set_option maxRecDepth 20000 in
theorem ggX8_bestMarsh_X8_greatestBehind : GoodIn wsX8_bestMarsh wsX8_greatestBehind := goodIn_r _ [13, 14, 15, 16, 17, 18, 19, 20, 12, 21, 22, 2, 23, 24, 25, 26, 27, 28, 29, 30, 31] (by decide +kernel) (by decide +kernel)
set_option maxRecDepth 20000 in
theorem gX8_bestMarsh_X8_greatestBehind : GoodIn wsX8_bestMarsh (wsV RX8 60 RX8 yX8_greatestBehind wsX8_greatestBehind) := goodIn_app (goodIn_of _ (by decide +kernel)) ggX8_bestMarsh_X8_greatestBehind
theorem dX8_bestMarsh_0 : decode cX8_bestMarsh 0 = .ok (.bipush (-9), 2) := by decide +kernel
theorem dX8_bestMarsh_2 : decode cX8_bestMarsh 2 = .ok (.istore_n 1, 1) := by decide +kernel
theorem dX8_bestMarsh_3 : decode cX8_bestMarsh 3 = .ok (.ldc2_w 54, 3) := by decide +kernel
theorem dX8_bestMarsh_6 : decode cX8_bestMarsh 6 = .ok (.lstore_n 2, 1) := by decide +kernel
theorem dX8_bestMarsh_7 : decode cX8_bestMarsh 7 = .ok (.iconst 0, 1) := by decide +kernel
theorem dX8_bestMarsh_8 : decode cX8_bestMarsh 8 = .ok (.istore 4, 2) := by decide +kernel
theorem dX8_bestMarsh_10 : decode cX8_bestMarsh 10 = .ok (.iload 4, 2) := by decide +kernel
theorem dX8_bestMarsh_12 : decode cX8_bestMarsh 12 = .ok (.bipush 6, 2) := by decide +kernel
theorem dX8_bestMarsh_14 : decode cX8_bestMarsh 14 = .ok (.if_icmp .ge 54, 3) := by decide +kernel
theorem dX8_bestMarsh_17 : decode cX8_bestMarsh 17 = .ok (.aload_n 0, 1) := by decide +kernel
theorem dX8_bestMarsh_18 : decode cX8_bestMarsh 18 = .ok (.getfield 20, 3) := by decide +kernel
theorem dX8_bestMarsh_21 : decode cX8_bestMarsh 21 = .ok (.iload 4, 2) := by decide +kernel
theorem dX8_bestMarsh_23 : decode cX8_bestMarsh 23 = .ok (.invokevirtual 56, 3) := by decide +kernel
theorem dX8_bestMarsh_26 : decode cX8_bestMarsh 26 = .ok (.ifCond .eq 6, 3) := by decide +kernel
theorem dX8_bestMarsh_29 : decode cX8_bestMarsh 29 = .ok (.goto 33, 3) := by decide +kernel
theorem dX8_bestMarsh_32 : decode cX8_bestMarsh 32 = .ok (.aload_n 0, 1) := by decide +kernel
theorem dX8_bestMarsh_33 : decode cX8_bestMarsh 33 = .ok (.iload 4, 2) := by decide +kernel
theorem dX8_bestMarsh_35 : decode cX8_bestMarsh 35 = .ok (.iconst 1, 1) := by decide +kernel
theorem dX8_bestMarsh_36 : decode cX8_bestMarsh 36 = .ok (.invokevirtual 60, 3) := by decide +kernel
theorem dX8_bestMarsh_39 : decode cX8_bestMarsh 39 = .ok (.aload_n 0, 1) := by decide +kernel
theorem dX8_bestMarsh_40 : decode cX8_bestMarsh 40 = .ok (.iload 4, 2) := by decide +kernel
theorem dX8_bestMarsh_42 : decode cX8_bestMarsh 42 = .ok (.iconst 0, 1) := by decide +kernel
theorem dX8_bestMarsh_43 : decode cX8_bestMarsh 43 = .ok (.invokevirtual 60, 3) := by decide +kernel
theorem dX8_bestMarsh_46 : decode cX8_bestMarsh 46 = .ok (.ladd, 1) := by decide +kernel
theorem dX8_bestMarsh_47 : decode cX8_bestMarsh 47 = .ok (.lstore 5, 2) := by decide +kernel
theorem dX8_bestMarsh_49 : decode cX8_bestMarsh 49 = .ok (.lload 5, 2) := by decide +kernel
theorem dX8_bestMarsh_51 : decode cX8_bestMarsh 51 = .ok (.lload_n 2, 1) := by decide +kernel
theorem dX8_bestMarsh_52 : decode cX8_bestMarsh 52 = .ok (.lcmp, 1) := by decide +kernel
theorem dX8_bestMarsh_53 : decode cX8_bestMarsh 53 = .ok (.ifCond .le 9, 3) := by decide +kernel
theorem dX8_bestMarsh_56 : decode cX8_bestMarsh 56 = .ok (.lload 5, 2) := by decide +kernel
theorem dX8_bestMarsh_58 : decode cX8_bestMarsh 58 = .ok (.lstore_n 2, 1) := by decide +kernel
theorem dX8_bestMarsh_59 : decode cX8_bestMarsh 59 = .ok (.iload 4, 2) := by decide +kernel
theorem dX8_bestMarsh_61 : decode cX8_bestMarsh 61 = .ok (.istore_n 1, 1) := by decide +kernel
theorem dX8_bestMarsh_62 : decode cX8_bestMarsh 62 = .ok (.iinc 4 1, 3) := by decide +kernel
theorem dX8_bestMarsh_65 : decode cX8_bestMarsh 65 = .ok (.goto (-55), 3) := by decide +kernel
theorem dX8_bestMarsh_68 : decode cX8_bestMarsh 68 = .ok (.iload_n 1, 1) := by decide +kernel
theorem dX8_bestMarsh_69 : decode cX8_bestMarsh 69 = .ok (.ireturn, 1) := by decide +kernel
set_option maxRecDepth 20000 in
theorem ggX8_part_X11_commonPart : GoodIn wsX8_part wsX11_commonPart := goodIn_r _ [4] (by decide +kernel) (by decide +kernel)
set_option maxRecDepth 20000 in
theorem gX8_part_X11_commonPart_n28 : GoodIn wsX8_part (wsX11_commonPart) := ggX8_part_X11_commonPart
theorem dX8_part_0 : decode cX8_part 0 = .ok (.lconst 0, 1) := by decide +kernel
theorem dX8_part_1 : decode cX8_part 1 = .ok (.lstore_n 3, 1) := by decide +kernel
theorem dX8_part_2 : decode cX8_part 2 = .ok (.iconst 0, 1) := by decide +kernel
theorem dX8_part_3 : decode cX8_part 3 = .ok (.istore 5, 2) := by decide +kernel
theorem dX8_part_5 : decode cX8_part 5 = .ok (.iload 5, 2) := by decide +kernel
theorem dX8_part_7 : decode cX8_part 7 = .ok (.iconst 5, 1) := by decide +kernel
theorem dX8_part_8 : decode cX8_part 8 = .ok (.if_icmp .ge 22, 3) := by decide +kernel
theorem dX8_part_11 : decode cX8_part 11 = .ok (.lload_n 3, 1) := by decide +kernel
theorem dX8_part_12 : decode cX8_part 12 = .ok (.aload_n 0, 1) := by decide +kernel
theorem dX8_part_13 : decode cX8_part 13 = .ok (.getfield 20, 3) := by decide +kernel
theorem dX8_part_16 : decode cX8_part 16 = .ok (.getfield 34, 3) := by decide +kernel
theorem dX8_part_19 : decode cX8_part 19 = .ok (.iload 5, 2) := by decide +kernel
theorem dX8_part_21 : decode cX8_part 21 = .ok (.laload, 1) := by decide +kernel
theorem dX8_part_22 : decode cX8_part 22 = .ok (.ladd, 1) := by decide +kernel
theorem dX8_part_23 : decode cX8_part 23 = .ok (.lstore_n 3, 1) := by decide +kernel
theorem dX8_part_24 : decode cX8_part 24 = .ok (.iinc 5 1, 3) := by decide +kernel
theorem dX8_part_27 : decode cX8_part 27 = .ok (.goto (-22), 3) := by decide +kernel
theorem dX8_part_30 : decode cX8_part 30 = .ok (.lload_n 3, 1) := by decide +kernel
theorem dX8_part_31 : decode cX8_part 31 = .ok (.lconst 0, 1) := by decide +kernel
theorem dX8_part_32 : decode cX8_part 32 = .ok (.lcmp, 1) := by decide +kernel
theorem dX8_part_33 : decode cX8_part 33 = .ok (.ifCond .ne 6, 3) := by decide +kernel
theorem dX8_part_36 : decode cX8_part 36 = .ok (.iload_n 2, 1) := by decide +kernel
theorem dX8_part_37 : decode cX8_part 37 = .ok (.i2l, 1) := by decide +kernel
theorem dX8_part_38 : decode cX8_part 38 = .ok (.lreturn, 1) := by decide +kernel
theorem dX8_part_39 : decode cX8_part 39 = .ok (.aload_n 0, 1) := by decide +kernel
theorem dX8_part_40 : decode cX8_part 40 = .ok (.getfield 20, 3) := by decide +kernel
theorem dX8_part_43 : decode cX8_part 43 = .ok (.getfield 34, 3) := by decide +kernel
theorem dX8_part_46 : decode cX8_part 46 = .ok (.iload_n 1, 1) := by decide +kernel
theorem dX8_part_47 : decode cX8_part 47 = .ok (.laload, 1) := by decide +kernel
theorem dX8_part_48 : decode cX8_part 48 = .ok (.lload_n 3, 1) := by decide +kernel
theorem dX8_part_49 : decode cX8_part 49 = .ok (.invokestatic 28, 3) := by decide +kernel
theorem dX8_part_52 : decode cX8_part 52 = .ok (.lstore 5, 2) := by decide +kernel
theorem dX8_part_54 : decode cX8_part 54 = .ok (.lload 5, 2) := by decide +kernel
theorem dX8_part_56 : decode cX8_part 56 = .ok (.lconst 0, 1) := by decide +kernel
theorem dX8_part_57 : decode cX8_part 57 = .ok (.lcmp, 1) := by decide +kernel
theorem dX8_part_58 : decode cX8_part 58 = .ok (.ifCond .ne 6, 3) := by decide +kernel
theorem dX8_part_61 : decode cX8_part 61 = .ok (.iload_n 2, 1) := by decide +kernel
theorem dX8_part_62 : decode cX8_part 62 = .ok (.i2l, 1) := by decide +kernel
theorem dX8_part_63 : decode cX8_part 63 = .ok (.lreturn, 1) := by decide +kernel
theorem dX8_part_64 : decode cX8_part 64 = .ok (.iload_n 2, 1) := by decide +kernel
theorem dX8_part_65 : decode cX8_part 65 = .ok (.ifCond .ne 15, 3) := by decide +kernel
theorem dX8_part_68 : decode cX8_part 68 = .ok (.aload_n 0, 1) := by decide +kernel
theorem dX8_part_69 : decode cX8_part 69 = .ok (.getfield 20, 3) := by decide +kernel
theorem dX8_part_72 : decode cX8_part 72 = .ok (.getfield 34, 3) := by decide +kernel
theorem dX8_part_75 : decode cX8_part 75 = .ok (.iload_n 1, 1) := by decide +kernel
theorem dX8_part_76 : decode cX8_part 76 = .ok (.laload, 1) := by decide +kernel
theorem dX8_part_77 : decode cX8_part 77 = .ok (.goto 4, 3) := by decide +kernel
theorem dX8_part_80 : decode cX8_part 80 = .ok (.lload_n 3, 1) := by decide +kernel
theorem dX8_part_81 : decode cX8_part 81 = .ok (.lload 5, 2) := by decide +kernel
theorem dX8_part_83 : decode cX8_part 83 = .ok (.ldiv, 1) := by decide +kernel
theorem dX8_part_84 : decode cX8_part 84 = .ok (.lreturn, 1) := by decide +kernel
theorem dX9_init_0 : decode cX9_init 0 = .ok (.aload_n 0, 1) := by decide +kernel
theorem dX9_init_1 : decode cX9_init 1 = .ok (.invokespecial 3, 3) := by decide +kernel
theorem dX9_init_4 : decode cX9_init 4 = .ok (.aload_n 0, 1) := by decide +kernel
theorem dX9_init_5 : decode cX9_init 5 = .ok (.sipush 400, 3) := by decide +kernel
theorem dX9_init_8 : decode cX9_init 8 = .ok (.newarray .byte, 2) := by decide +kernel
theorem dX9_init_10 : decode cX9_init 10 = .ok (.putfield 9, 3) := by decide +kernel
theorem dX9_init_13 : decode cX9_init 13 = .ok (.return_, 1) := by decide +kernel
theorem dX9_append_0 : decode cX9_append 0 = .ok (.aload_n 0, 1) := by decide +kernel
theorem dX9_append_1 : decode cX9_append 1 = .ok (.getfield 15, 3) := by decide +kernel
theorem dX9_append_4 : decode cX9_append 4 = .ok (.sipush 400, 3) := by decide +kernel
theorem dX9_append_7 : decode cX9_append 7 = .ok (.if_icmp .ge 20, 3) := by decide +kernel
theorem dX9_append_10 : decode cX9_append 10 = .ok (.aload_n 0, 1) := by decide +kernel
theorem dX9_append_11 : decode cX9_append 11 = .ok (.getfield 9, 3) := by decide +kernel
theorem dX9_append_14 : decode cX9_append 14 = .ok (.aload_n 0, 1) := by decide +kernel
theorem dX9_append_15 : decode cX9_append 15 = .ok (.dup, 1) := by decide +kernel
theorem dX9_append_16 : decode cX9_append 16 = .ok (.getfield 15, 3) := by decide +kernel
theorem dX9_append_19 : decode cX9_append 19 = .ok (.dup_x1, 1) := by decide +kernel
theorem dX9_append_20 : decode cX9_append 20 = .ok (.iconst 1, 1) := by decide +kernel
theorem dX9_append_21 : decode cX9_append 21 = .ok (.iadd, 1) := by decide +kernel
theorem dX9_append_22 : decode cX9_append 22 = .ok (.putfield 15, 3) := by decide +kernel
theorem dX9_append_25 : decode cX9_append 25 = .ok (.iload_n 1, 1) := by decide +kernel
theorem dX9_append_26 : decode cX9_append 26 = .ok (.bastore, 1) := by decide +kernel
theorem dX9_append_27 : decode cX9_append 27 = .ok (.return_, 1) := by decide +kernel
theorem dX9_empty_0 : decode cX9_empty 0 = .ok (.aload_n 0, 1) := by decide +kernel
theorem dX9_empty_1 : decode cX9_empty 1 = .ok (.getfield 15, 3) := by decide +kernel
theorem dX9_empty_4 : decode cX9_empty 4 = .ok (.istore_n 1, 1) := by decide +kernel
theorem dX9_empty_5 : decode cX9_empty 5 = .ok (.aload_n 0, 1) := by decide +kernel
theorem dX9_empty_6 : decode cX9_empty 6 = .ok (.iconst 0, 1) := by decide +kernel
theorem dX9_empty_7 : decode cX9_empty 7 = .ok (.putfield 15, 3) := by decide +kernel
theorem dX9_empty_10 : decode cX9_empty 10 = .ok (.iload_n 1, 1) := by decide +kernel
theorem dX9_empty_11 : decode cX9_empty 11 = .ok (.ireturn, 1) := by decide +kernel
theorem dX9_byteAt_0 : decode cX9_byteAt 0 = .ok (.iload_n 1, 1) := by decide +kernel
theorem dX9_byteAt_1 : decode cX9_byteAt 1 = .ok (.ifCond .lt 24, 3) := by decide +kernel
theorem dX9_byteAt_4 : decode cX9_byteAt 4 = .ok (.iload_n 1, 1) := by decide +kernel
theorem dX9_byteAt_5 : decode cX9_byteAt 5 = .ok (.aload_n 0, 1) := by decide +kernel
theorem dX9_byteAt_6 : decode cX9_byteAt 6 = .ok (.getfield 15, 3) := by decide +kernel
theorem dX9_byteAt_9 : decode cX9_byteAt 9 = .ok (.if_icmp .ge 16, 3) := by decide +kernel
theorem dX9_byteAt_12 : decode cX9_byteAt 12 = .ok (.aload_n 0, 1) := by decide +kernel
theorem dX9_byteAt_13 : decode cX9_byteAt 13 = .ok (.getfield 9, 3) := by decide +kernel
theorem dX9_byteAt_16 : decode cX9_byteAt 16 = .ok (.iload_n 1, 1) := by decide +kernel
theorem dX9_byteAt_17 : decode cX9_byteAt 17 = .ok (.baload, 1) := by decide +kernel
theorem dX9_byteAt_18 : decode cX9_byteAt 18 = .ok (.sipush 255, 3) := by decide +kernel
theorem dX9_byteAt_21 : decode cX9_byteAt 21 = .ok (.iand, 1) := by decide +kernel
theorem dX9_byteAt_22 : decode cX9_byteAt 22 = .ok (.goto 4, 3) := by decide +kernel
theorem dX9_byteAt_25 : decode cX9_byteAt 25 = .ok (.iconst (-1), 1) := by decide +kernel
theorem dX9_byteAt_26 : decode cX9_byteAt 26 = .ok (.ireturn, 1) := by decide +kernel
set_option maxRecDepth 20000 in
theorem ggX9_isFigure_X9_byteAt : GoodIn wsX9_isFigure wsX9_byteAt := goodIn_r _ [5, 6, 7, 8, 9] (by decide +kernel) (by decide +kernel)
set_option maxRecDepth 20000 in
theorem gX9_isFigure_X9_byteAt : GoodIn wsX9_isFigure (wsV RX9 19 RX9 yX9_byteAt wsX9_byteAt) := goodIn_app (goodIn_of _ (by decide +kernel)) ggX9_isFigure_X9_byteAt
theorem dX9_isFigure_0 : decode cX9_isFigure 0 = .ok (.aload_n 0, 1) := by decide +kernel
theorem dX9_isFigure_1 : decode cX9_isFigure 1 = .ok (.iload_n 1, 1) := by decide +kernel
theorem dX9_isFigure_2 : decode cX9_isFigure 2 = .ok (.invokevirtual 19, 3) := by decide +kernel
theorem dX9_isFigure_5 : decode cX9_isFigure 5 = .ok (.istore_n 2, 1) := by decide +kernel
theorem dX9_isFigure_6 : decode cX9_isFigure 6 = .ok (.iload_n 2, 1) := by decide +kernel
theorem dX9_isFigure_7 : decode cX9_isFigure 7 = .ok (.bipush 48, 2) := by decide +kernel
theorem dX9_isFigure_9 : decode cX9_isFigure 9 = .ok (.if_icmp .lt 13, 3) := by decide +kernel
theorem dX9_isFigure_12 : decode cX9_isFigure 12 = .ok (.iload_n 2, 1) := by decide +kernel
theorem dX9_isFigure_13 : decode cX9_isFigure 13 = .ok (.bipush 57, 2) := by decide +kernel
theorem dX9_isFigure_15 : decode cX9_isFigure 15 = .ok (.if_icmp .gt 7, 3) := by decide +kernel
theorem dX9_isFigure_18 : decode cX9_isFigure 18 = .ok (.iconst 1, 1) := by decide +kernel
theorem dX9_isFigure_19 : decode cX9_isFigure 19 = .ok (.goto 4, 3) := by decide +kernel
theorem dX9_isFigure_22 : decode cX9_isFigure 22 = .ok (.iconst 0, 1) := by decide +kernel
theorem dX9_isFigure_23 : decode cX9_isFigure 23 = .ok (.ireturn, 1) := by decide +kernel
set_option maxRecDepth 20000 in
theorem ggX9_figuresEnd_X9_isFigure : GoodIn wsX9_figuresEnd wsX9_isFigure := goodIn_r _ [6, 7, 8, 9, 5, 10, 1, 11, 12, 13] (by decide +kernel) (by decide +kernel)
set_option maxRecDepth 20000 in
theorem gX9_figuresEnd_X9_isFigure : GoodIn wsX9_figuresEnd (wsV RX9 23 RX9 yX9_isFigure wsX9_isFigure) := goodIn_app (goodIn_of _ (by decide +kernel)) ggX9_figuresEnd_X9_isFigure
theorem dX9_figuresEnd_0 : decode cX9_figuresEnd 0 = .ok (.iload_n 1, 1) := by decide +kernel
theorem dX9_figuresEnd_1 : decode cX9_figuresEnd 1 = .ok (.istore_n 2, 1) := by decide +kernel
theorem dX9_figuresEnd_2 : decode cX9_figuresEnd 2 = .ok (.iload_n 2, 1) := by decide +kernel
theorem dX9_figuresEnd_3 : decode cX9_figuresEnd 3 = .ok (.aload_n 0, 1) := by decide +kernel
theorem dX9_figuresEnd_4 : decode cX9_figuresEnd 4 = .ok (.getfield 15, 3) := by decide +kernel
theorem dX9_figuresEnd_7 : decode cX9_figuresEnd 7 = .ok (.if_icmp .ge 17, 3) := by decide +kernel
theorem dX9_figuresEnd_10 : decode cX9_figuresEnd 10 = .ok (.aload_n 0, 1) := by decide +kernel
theorem dX9_figuresEnd_11 : decode cX9_figuresEnd 11 = .ok (.iload_n 2, 1) := by decide +kernel
theorem dX9_figuresEnd_12 : decode cX9_figuresEnd 12 = .ok (.invokevirtual 23, 3) := by decide +kernel
theorem dX9_figuresEnd_15 : decode cX9_figuresEnd 15 = .ok (.ifCond .eq 9, 3) := by decide +kernel
theorem dX9_figuresEnd_18 : decode cX9_figuresEnd 18 = .ok (.iinc 2 1, 3) := by decide +kernel
theorem dX9_figuresEnd_21 : decode cX9_figuresEnd 21 = .ok (.goto (-19), 3) := by decide +kernel
theorem dX9_figuresEnd_24 : decode cX9_figuresEnd 24 = .ok (.iload_n 2, 1) := by decide +kernel
theorem dX9_figuresEnd_25 : decode cX9_figuresEnd 25 = .ok (.ireturn, 1) := by decide +kernel
theorem dX10_init_0 : decode cX10_init 0 = .ok (.aload_n 0, 1) := by decide +kernel
theorem dX10_init_1 : decode cX10_init 1 = .ok (.invokespecial 3, 3) := by decide +kernel
theorem dX10_init_4 : decode cX10_init 4 = .ok (.aload_n 0, 1) := by decide +kernel
theorem dX10_init_5 : decode cX10_init 5 = .ok (.bipush 60, 2) := by decide +kernel
theorem dX10_init_7 : decode cX10_init 7 = .ok (.newarray .int, 2) := by decide +kernel
theorem dX10_init_9 : decode cX10_init 9 = .ok (.putfield 9, 3) := by decide +kernel
theorem dX10_init_12 : decode cX10_init 12 = .ok (.aload_n 0, 1) := by decide +kernel
theorem dX10_init_13 : decode cX10_init 13 = .ok (.iconst 4, 1) := by decide +kernel
theorem dX10_init_14 : decode cX10_init 14 = .ok (.bipush 30, 2) := by decide +kernel
theorem dX10_init_16 : decode cX10_init 16 = .ok (.multianewarray 15 2, 4) := by decide +kernel
theorem dX10_init_20 : decode cX10_init 20 = .ok (.putfield 17, 3) := by decide +kernel
theorem dX10_init_23 : decode cX10_init 23 = .ok (.aload_n 0, 1) := by decide +kernel
theorem dX10_init_24 : decode cX10_init 24 = .ok (.iconst 4, 1) := by decide +kernel
theorem dX10_init_25 : decode cX10_init 25 = .ok (.newarray .int, 2) := by decide +kernel
theorem dX10_init_27 : decode cX10_init 27 = .ok (.putfield 20, 3) := by decide +kernel
theorem dX10_init_30 : decode cX10_init 30 = .ok (.aload_n 0, 1) := by decide +kernel
theorem dX10_init_31 : decode cX10_init 31 = .ok (.iconst 4, 1) := by decide +kernel
theorem dX10_init_32 : decode cX10_init 32 = .ok (.newarray .int, 2) := by decide +kernel
theorem dX10_init_34 : decode cX10_init 34 = .ok (.putfield 23, 3) := by decide +kernel
theorem dX10_init_37 : decode cX10_init 37 = .ok (.aload_n 0, 1) := by decide +kernel
theorem dX10_init_38 : decode cX10_init 38 = .ok (.sipush 1000, 3) := by decide +kernel
theorem dX10_init_41 : decode cX10_init 41 = .ok (.putfield 26, 3) := by decide +kernel
theorem dX10_init_44 : decode cX10_init 44 = .ok (.return_, 1) := by decide +kernel
theorem dX10_grow_0 : decode cX10_grow 0 = .ok (.aload_n 0, 1) := by decide +kernel
theorem dX10_grow_1 : decode cX10_grow 1 = .ok (.getfield 9, 3) := by decide +kernel
theorem dX10_grow_4 : decode cX10_grow 4 = .ok (.aload_n 0, 1) := by decide +kernel
theorem dX10_grow_5 : decode cX10_grow 5 = .ok (.dup, 1) := by decide +kernel
theorem dX10_grow_6 : decode cX10_grow 6 = .ok (.getfield 30, 3) := by decide +kernel
theorem dX10_grow_9 : decode cX10_grow 9 = .ok (.dup_x1, 1) := by decide +kernel
theorem dX10_grow_10 : decode cX10_grow 10 = .ok (.iconst 1, 1) := by decide +kernel
theorem dX10_grow_11 : decode cX10_grow 11 = .ok (.iadd, 1) := by decide +kernel
theorem dX10_grow_12 : decode cX10_grow 12 = .ok (.putfield 30, 3) := by decide +kernel
theorem dX10_grow_15 : decode cX10_grow 15 = .ok (.iload_n 1, 1) := by decide +kernel
theorem dX10_grow_16 : decode cX10_grow 16 = .ok (.iastore, 1) := by decide +kernel
theorem dX10_grow_17 : decode cX10_grow 17 = .ok (.aload_n 0, 1) := by decide +kernel
theorem dX10_grow_18 : decode cX10_grow 18 = .ok (.getfield 30, 3) := by decide +kernel
theorem dX10_grow_21 : decode cX10_grow 21 = .ok (.ireturn, 1) := by decide +kernel
theorem dX10_plant_0 : decode cX10_plant 0 = .ok (.aload_n 0, 1) := by decide +kernel
theorem dX10_plant_1 : decode cX10_plant 1 = .ok (.getfield 30, 3) := by decide +kernel
theorem dX10_plant_4 : decode cX10_plant 4 = .ok (.istore_n 2, 1) := by decide +kernel
theorem dX10_plant_5 : decode cX10_plant 5 = .ok (.aload_n 0, 1) := by decide +kernel
theorem dX10_plant_6 : decode cX10_plant 6 = .ok (.iconst 0, 1) := by decide +kernel
theorem dX10_plant_7 : decode cX10_plant 7 = .ok (.putfield 30, 3) := by decide +kernel
theorem dX10_plant_10 : decode cX10_plant 10 = .ok (.aload_n 0, 1) := by decide +kernel
theorem dX10_plant_11 : decode cX10_plant 11 = .ok (.iload_n 1, 1) := by decide +kernel
theorem dX10_plant_12 : decode cX10_plant 12 = .ok (.putfield 26, 3) := by decide +kernel
theorem dX10_plant_15 : decode cX10_plant 15 = .ok (.iload_n 2, 1) := by decide +kernel
theorem dX10_plant_16 : decode cX10_plant 16 = .ok (.ireturn, 1) := by decide +kernel
theorem dX10_growWood_0 : decode cX10_growWood 0 = .ok (.aload_n 0, 1) := by decide +kernel
theorem dX10_growWood_1 : decode cX10_growWood 1 = .ok (.getfield 17, 3) := by decide +kernel
theorem dX10_growWood_4 : decode cX10_growWood 4 = .ok (.iload_n 1, 1) := by decide +kernel
theorem dX10_growWood_5 : decode cX10_growWood 5 = .ok (.aaload, 1) := by decide +kernel
theorem dX10_growWood_6 : decode cX10_growWood 6 = .ok (.aload_n 0, 1) := by decide +kernel
theorem dX10_growWood_7 : decode cX10_growWood 7 = .ok (.getfield 20, 3) := by decide +kernel
theorem dX10_growWood_10 : decode cX10_growWood 10 = .ok (.iload_n 1, 1) := by decide +kernel
theorem dX10_growWood_11 : decode cX10_growWood 11 = .ok (.dup2, 1) := by decide +kernel
theorem dX10_growWood_12 : decode cX10_growWood 12 = .ok (.iaload, 1) := by decide +kernel
theorem dX10_growWood_13 : decode cX10_growWood 13 = .ok (.dup_x2, 1) := by decide +kernel
theorem dX10_growWood_14 : decode cX10_growWood 14 = .ok (.iconst 1, 1) := by decide +kernel
