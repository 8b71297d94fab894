theorem dX11_known_35 : decode cX11_known 35 = .ok (.if_icmp .lt 8, 3) := by decide +kernel
theorem dX11_known_38 : decode cX11_known 38 = .ok (.bipush (-3), 2) := by decide +kernel
theorem dX11_known_40 : decode cX11_known 40 = .ok (.goto 14, 3) := by decide +kernel
theorem dX11_known_43 : decode cX11_known 43 = .ok (.aload_n 0, 1) := by decide +kernel
theorem dX11_known_44 : decode cX11_known 44 = .ok (.getfield 33, 3) := by decide +kernel
theorem dX11_known_47 : decode cX11_known 47 = .ok (.getfield 290, 3) := by decide +kernel
theorem dX11_known_50 : decode cX11_known 50 = .ok (.iload_n 1, 1) := by decide +kernel
theorem dX11_known_51 : decode cX11_known 51 = .ok (.invokevirtual 300, 3) := by decide +kernel
theorem dX11_known_54 : decode cX11_known 54 = .ok (.ireturn, 1) := by decide +kernel
set_option maxRecDepth 20000 in
theorem ggX11_next_X11_within : GoodIn wsX11_next wsX11_within := goodIn_r _ [7] (by decide +kernel) (by decide +kernel)
set_option maxRecDepth 20000 in
theorem gX11_next_X11_within : GoodIn wsX11_next (va_wsS RX11 84 yX11_within wsX11_within) := goodIn_app (goodIn_of _ (by decide +kernel)) ggX11_next_X11_within
set_option maxRecDepth 20000 in
theorem ggX11_next_X11_isBit : GoodIn wsX11_next wsX11_isBit := goodIn_r _ [10] (by decide +kernel) (by decide +kernel)
set_option maxRecDepth 20000 in
theorem gX11_next_X11_isBit : GoodIn wsX11_next (va_wsS RX11 222 yX11_isBit wsX11_isBit) := goodIn_app (goodIn_of _ (by decide +kernel)) ggX11_next_X11_isBit
set_option maxRecDepth 20000 in
theorem ggX11_next_X3_outlook : GoodIn wsX11_next wsX3_outlook := goodIn_r _ [15, 16, 17, 18, 19, 20, 21, 14, 22, 23, 6, 24, 42, 43] (by decide +kernel) (by decide +kernel)
set_option maxRecDepth 20000 in
theorem gX11_next_X3_outlook : GoodIn wsX11_next (wsV RX11 302 RX3 yX3_outlook wsX3_outlook) := goodIn_app (goodIn_of _ (by decide +kernel)) ggX11_next_X3_outlook
theorem dX11_next_0 : decode cX11_next 0 = .ok (.iload_n 1, 1) := by decide +kernel
theorem dX11_next_1 : decode cX11_next 1 = .ok (.iconst 0, 1) := by decide +kernel
theorem dX11_next_2 : decode cX11_next 2 = .ok (.sipush 9999, 3) := by decide +kernel
theorem dX11_next_5 : decode cX11_next 5 = .ok (.invokestatic 84, 3) := by decide +kernel
theorem dX11_next_8 : decode cX11_next 8 = .ok (.ifCond .eq 10, 3) := by decide +kernel
theorem dX11_next_11 : decode cX11_next 11 = .ok (.iload_n 2, 1) := by decide +kernel
theorem dX11_next_12 : decode cX11_next 12 = .ok (.invokestatic 222, 3) := by decide +kernel
theorem dX11_next_15 : decode cX11_next 15 = .ok (.ifCond .ne 6, 3) := by decide +kernel
theorem dX11_next_18 : decode cX11_next 18 = .ok (.ldc 163, 2) := by decide +kernel
theorem dX11_next_20 : decode cX11_next 20 = .ok (.ireturn, 1) := by decide +kernel
theorem dX11_next_21 : decode cX11_next 21 = .ok (.aload_n 0, 1) := by decide +kernel
theorem dX11_next_22 : decode cX11_next 22 = .ok (.getfield 33, 3) := by decide +kernel
theorem dX11_next_25 : decode cX11_next 25 = .ok (.getfield 290, 3) := by decide +kernel
theorem dX11_next_28 : decode cX11_next 28 = .ok (.aload_n 0, 1) := by decide +kernel
theorem dX11_next_29 : decode cX11_next 29 = .ok (.getfield 80, 3) := by decide +kernel
theorem dX11_next_32 : decode cX11_next 32 = .ok (.iload_n 1, 1) := by decide +kernel
theorem dX11_next_33 : decode cX11_next 33 = .ok (.iload_n 2, 1) := by decide +kernel
theorem dX11_next_34 : decode cX11_next 34 = .ok (.invokevirtual 302, 3) := by decide +kernel
theorem dX11_next_37 : decode cX11_next 37 = .ok (.ireturn, 1) := by decide +kernel
set_option maxRecDepth 20000 in
theorem ggX11_even_X3_evenness : GoodIn wsX11_even wsX3_evenness := goodIn_r _ [6, 7, 8, 9, 10, 11, 12, 13, 14, 15, 33, 34] (by decide +kernel) (by decide +kernel)
set_option maxRecDepth 20000 in
theorem gX11_even_X3_evenness : GoodIn wsX11_even (wsV RX11 305 RX3 yX3_evenness wsX3_evenness) := goodIn_app (goodIn_of _ (by decide +kernel)) ggX11_even_X3_evenness
theorem dX11_even_0 : decode cX11_even 0 = .ok (.aload_n 0, 1) := by decide +kernel
theorem dX11_even_1 : decode cX11_even 1 = .ok (.getfield 33, 3) := by decide +kernel
theorem dX11_even_4 : decode cX11_even 4 = .ok (.getfield 290, 3) := by decide +kernel
theorem dX11_even_7 : decode cX11_even 7 = .ok (.invokevirtual 305, 3) := by decide +kernel
theorem dX11_even_10 : decode cX11_even 10 = .ok (.ireturn, 1) := by decide +kernel
set_option maxRecDepth 20000 in
theorem ggX11_story_X11_isStory : GoodIn wsX11_story wsX11_isStory := goodIn_r _ [6, 7, 8, 5, 9] (by decide +kernel) (by decide +kernel)
set_option maxRecDepth 20000 in
theorem gX11_story_X11_isStory : GoodIn wsX11_story (va_wsS RX11 308 yX11_isStory wsX11_isStory) := goodIn_app (goodIn_of _ (by decide +kernel)) ggX11_story_X11_isStory
set_option maxRecDepth 20000 in
theorem ggX11_story_X11_within : GoodIn wsX11_story wsX11_within := goodIn_r _ [9] (by decide +kernel) (by decide +kernel)
set_option maxRecDepth 20000 in
theorem gX11_story_X11_within : GoodIn wsX11_story (va_wsS RX11 84 yX11_within wsX11_within) := goodIn_app (goodIn_of _ (by decide +kernel)) ggX11_story_X11_within
theorem dX11_story_0 : decode cX11_story 0 = .ok (.iload_n 1, 1) := by decide +kernel
theorem dX11_story_1 : decode cX11_story 1 = .ok (.invokestatic 308, 3) := by decide +kernel
theorem dX11_story_4 : decode cX11_story 4 = .ok (.ifCond .eq 13, 3) := by decide +kernel
theorem dX11_story_7 : decode cX11_story 7 = .ok (.iload_n 2, 1) := by decide +kernel
theorem dX11_story_8 : decode cX11_story 8 = .ok (.iconst 0, 1) := by decide +kernel
theorem dX11_story_9 : decode cX11_story 9 = .ok (.bipush 99, 2) := by decide +kernel
theorem dX11_story_11 : decode cX11_story 11 = .ok (.invokestatic 84, 3) := by decide +kernel
theorem dX11_story_14 : decode cX11_story 14 = .ok (.ifCond .ne 7, 3) := by decide +kernel
theorem dX11_story_17 : decode cX11_story 17 = .ok (.ldc2_w 311, 3) := by decide +kernel
theorem dX11_story_20 : decode cX11_story 20 = .ok (.lreturn, 1) := by decide +kernel
theorem dX11_story_21 : decode cX11_story 21 = .ok (.aload_n 0, 1) := by decide +kernel
theorem dX11_story_22 : decode cX11_story 22 = .ok (.getfield 33, 3) := by decide +kernel
theorem dX11_story_25 : decode cX11_story 25 = .ok (.getfield 313, 3) := by decide +kernel
theorem dX11_story_28 : decode cX11_story 28 = .ok (.iload_n 1, 1) := by decide +kernel
theorem dX11_story_29 : decode cX11_story 29 = .ok (.laload, 1) := by decide +kernel
theorem dX11_story_30 : decode cX11_story 30 = .ok (.lstore_n 3, 1) := by decide +kernel
theorem dX11_story_31 : decode cX11_story 31 = .ok (.aload_n 0, 1) := by decide +kernel
theorem dX11_story_32 : decode cX11_story 32 = .ok (.getfield 33, 3) := by decide +kernel
theorem dX11_story_35 : decode cX11_story 35 = .ok (.getfield 313, 3) := by decide +kernel
theorem dX11_story_38 : decode cX11_story 38 = .ok (.iload_n 1, 1) := by decide +kernel
theorem dX11_story_39 : decode cX11_story 39 = .ok (.iload_n 2, 1) := by decide +kernel
theorem dX11_story_40 : decode cX11_story 40 = .ok (.i2l, 1) := by decide +kernel
theorem dX11_story_41 : decode cX11_story 41 = .ok (.lastore, 1) := by decide +kernel
theorem dX11_story_42 : decode cX11_story 42 = .ok (.lload_n 3, 1) := by decide +kernel
theorem dX11_story_43 : decode cX11_story 43 = .ok (.lreturn, 1) := by decide +kernel
set_option maxRecDepth 20000 in
theorem ggX11_chance_X11_isStory : GoodIn wsX11_chance wsX11_isStory := goodIn_r _ [5, 6, 7, 4, 8] (by decide +kernel) (by decide +kernel)
set_option maxRecDepth 20000 in
theorem gX11_chance_X11_isStory : GoodIn wsX11_chance (va_wsS RX11 308 yX11_isStory wsX11_isStory) := goodIn_app (goodIn_of _ (by decide +kernel)) ggX11_chance_X11_isStory
set_option maxRecDepth 20000 in
theorem ggX11_chance_X11_isMarsh : GoodIn wsX11_chance wsX11_isMarsh := goodIn_r _ [11, 6, 7, 4, 8] (by decide +kernel) (by decide +kernel)
set_option maxRecDepth 20000 in
theorem gX11_chance_X11_isMarsh : GoodIn wsX11_chance (va_wsS RX11 247 yX11_isMarsh wsX11_isMarsh) := goodIn_app (goodIn_of _ (by decide +kernel)) ggX11_chance_X11_isMarsh
set_option maxRecDepth 20000 in
theorem ggX11_chance_X11_within : GoodIn wsX11_chance wsX11_within := goodIn_r _ [8] (by decide +kernel) (by decide +kernel)
set_option maxRecDepth 20000 in
theorem gX11_chance_X11_within : GoodIn wsX11_chance (va_wsS RX11 84 yX11_within wsX11_within) := goodIn_app (goodIn_of _ (by decide +kernel)) ggX11_chance_X11_within
theorem dX11_chance_0 : decode cX11_chance 0 = .ok (.iload_n 1, 1) := by decide +kernel
theorem dX11_chance_1 : decode cX11_chance 1 = .ok (.invokestatic 308, 3) := by decide +kernel
theorem dX11_chance_4 : decode cX11_chance 4 = .ok (.ifCond .eq 20, 3) := by decide +kernel
theorem dX11_chance_7 : decode cX11_chance 7 = .ok (.iload_n 2, 1) := by decide +kernel
theorem dX11_chance_8 : decode cX11_chance 8 = .ok (.invokestatic 247, 3) := by decide +kernel
theorem dX11_chance_11 : decode cX11_chance 11 = .ok (.ifCond .eq 13, 3) := by decide +kernel
theorem dX11_chance_14 : decode cX11_chance 14 = .ok (.iload_n 3, 1) := by decide +kernel
theorem dX11_chance_15 : decode cX11_chance 15 = .ok (.iconst 0, 1) := by decide +kernel
theorem dX11_chance_16 : decode cX11_chance 16 = .ok (.bipush 10, 2) := by decide +kernel
theorem dX11_chance_18 : decode cX11_chance 18 = .ok (.invokestatic 84, 3) := by decide +kernel
theorem dX11_chance_21 : decode cX11_chance 21 = .ok (.ifCond .ne 5, 3) := by decide +kernel
theorem dX11_chance_24 : decode cX11_chance 24 = .ok (.iconst (-1), 1) := by decide +kernel
theorem dX11_chance_25 : decode cX11_chance 25 = .ok (.ireturn, 1) := by decide +kernel
theorem dX11_chance_26 : decode cX11_chance 26 = .ok (.aload_n 0, 1) := by decide +kernel
theorem dX11_chance_27 : decode cX11_chance 27 = .ok (.getfield 59, 3) := by decide +kernel
theorem dX11_chance_30 : decode cX11_chance 30 = .ok (.getfield 317, 3) := by decide +kernel
theorem dX11_chance_33 : decode cX11_chance 33 = .ok (.iload_n 1, 1) := by decide +kernel
theorem dX11_chance_34 : decode cX11_chance 34 = .ok (.aaload, 1) := by decide +kernel
theorem dX11_chance_35 : decode cX11_chance 35 = .ok (.iload_n 2, 1) := by decide +kernel
theorem dX11_chance_36 : decode cX11_chance 36 = .ok (.iaload, 1) := by decide +kernel
theorem dX11_chance_37 : decode cX11_chance 37 = .ok (.istore 4, 2) := by decide +kernel
theorem dX11_chance_39 : decode cX11_chance 39 = .ok (.aload_n 0, 1) := by decide +kernel
theorem dX11_chance_40 : decode cX11_chance 40 = .ok (.getfield 59, 3) := by decide +kernel
theorem dX11_chance_43 : decode cX11_chance 43 = .ok (.getfield 317, 3) := by decide +kernel
theorem dX11_chance_46 : decode cX11_chance 46 = .ok (.iload_n 1, 1) := by decide +kernel
theorem dX11_chance_47 : decode cX11_chance 47 = .ok (.aaload, 1) := by decide +kernel
theorem dX11_chance_48 : decode cX11_chance 48 = .ok (.iload_n 2, 1) := by decide +kernel
theorem dX11_chance_49 : decode cX11_chance 49 = .ok (.iload_n 3, 1) := by decide +kernel
theorem dX11_chance_50 : decode cX11_chance 50 = .ok (.iastore, 1) := by decide +kernel
theorem dX11_chance_51 : decode cX11_chance 51 = .ok (.iload 4, 2) := by decide +kernel
theorem dX11_chance_53 : decode cX11_chance 53 = .ok (.ireturn, 1) := by decide +kernel
set_option maxRecDepth 20000 in
theorem ggX11_dug_X11_isMarsh : GoodIn wsX11_dug wsX11_isMarsh := goodIn_r _ [6, 7, 8, 5, 9] (by decide +kernel) (by decide +kernel)
set_option maxRecDepth 20000 in
theorem gX11_dug_X11_isMarsh : GoodIn wsX11_dug (va_wsS RX11 247 yX11_isMarsh wsX11_isMarsh) := goodIn_app (goodIn_of _ (by decide +kernel)) ggX11_dug_X11_isMarsh
set_option maxRecDepth 20000 in
theorem ggX11_dug_X11_isBit : GoodIn wsX11_dug wsX11_isBit := goodIn_r _ [12] (by decide +kernel) (by decide +kernel)
set_option maxRecDepth 20000 in
theorem gX11_dug_X11_isBit : GoodIn wsX11_dug (va_wsS RX11 222 yX11_isBit wsX11_isBit) := goodIn_app (goodIn_of _ (by decide +kernel)) ggX11_dug_X11_isBit
set_option maxRecDepth 20000 in
theorem ggX11_dug_X2_isDug : GoodIn wsX11_dug wsX2_isDug := goodIn_r _ [17, 18, 64, 65, 66, 67, 68, 69] (by decide +kernel) (by decide +kernel)
set_option maxRecDepth 20000 in
theorem gX11_dug_X2_isDug : GoodIn wsX11_dug (wsV RX11 321 RX2 yX2_isDug wsX2_isDug) := goodIn_app (goodIn_of _ (by decide +kernel)) ggX11_dug_X2_isDug
set_option maxRecDepth 20000 in
theorem ggX11_dug_X8_weigh : GoodIn wsX11_dug wsX8_weigh := goodIn_r _ [23, 24, 25, 26, 27, 28, 22, 29, 30, 31, 32, 5, 33, 70, 71, 72, 64, 65, 66, 67, 68, 69] (by decide +kernel) (by decide +kernel)
set_option maxRecDepth 20000 in
theorem gX11_dug_X8_weigh : GoodIn wsX11_dug (wsV RX11 324 RX8 yX8_weigh wsX8_weigh) := goodIn_app (goodIn_of _ (by decide +kernel)) ggX11_dug_X8_weigh
set_option maxRecDepth 20000 in
theorem ggX11_dug_X8_settle : GoodIn wsX11_dug wsX8_settle := goodIn_r _ [37, 24, 31, 38, 39, 40, 41, 70, 71, 72, 64, 65, 66, 67, 68, 69] (by decide +kernel) (by decide +kernel)
set_option maxRecDepth 20000 in
theorem gX11_dug_X8_settle : GoodIn wsX11_dug (wsV RX11 327 RX8 yX8_settle wsX8_settle) := goodIn_app (goodIn_of _ (by decide +kernel)) ggX11_dug_X8_settle
set_option maxRecDepth 20000 in
theorem ggX11_dug_X2_dugCount : GoodIn wsX11_dug wsX2_dugCount := goodIn_r _ [45, 18, 46, 47, 48, 49, 50, 51, 52, 64, 65, 66, 67, 68, 69] (by decide +kernel) (by decide +kernel)
set_option maxRecDepth 20000 in
theorem gX11_dug_X2_dugCount : GoodIn wsX11_dug (wsV RX11 331 RX2 yX2_dugCount wsX2_dugCount) := goodIn_app (goodIn_of _ (by decide +kernel)) ggX11_dug_X2_dugCount
theorem dX11_dug_0 : decode cX11_dug 0 = .ok (.iload_n 1, 1) := by decide +kernel
theorem dX11_dug_1 : decode cX11_dug 1 = .ok (.invokestatic 247, 3) := by decide +kernel
theorem dX11_dug_4 : decode cX11_dug 4 = .ok (.ifCond .eq 10, 3) := by decide +kernel
theorem dX11_dug_7 : decode cX11_dug 7 = .ok (.iload_n 2, 1) := by decide +kernel
theorem dX11_dug_8 : decode cX11_dug 8 = .ok (.invokestatic 222, 3) := by decide +kernel
theorem dX11_dug_11 : decode cX11_dug 11 = .ok (.ifCond .ne 5, 3) := by decide +kernel
theorem dX11_dug_14 : decode cX11_dug 14 = .ok (.iconst (-1), 1) := by decide +kernel
theorem dX11_dug_15 : decode cX11_dug 15 = .ok (.ireturn, 1) := by decide +kernel
theorem dX11_dug_16 : decode cX11_dug 16 = .ok (.aload_n 0, 1) := by decide +kernel
theorem dX11_dug_17 : decode cX11_dug 17 = .ok (.getfield 33, 3) := by decide +kernel
theorem dX11_dug_20 : decode cX11_dug 20 = .ok (.iload_n 1, 1) := by decide +kernel
theorem dX11_dug_21 : decode cX11_dug 21 = .ok (.invokevirtual 321, 3) := by decide +kernel
theorem dX11_dug_24 : decode cX11_dug 24 = .ok (.ifCond .eq 6, 3) := by decide +kernel
theorem dX11_dug_27 : decode cX11_dug 27 = .ok (.bipush (-2), 2) := by decide +kernel
theorem dX11_dug_29 : decode cX11_dug 29 = .ok (.ireturn, 1) := by decide +kernel
theorem dX11_dug_30 : decode cX11_dug 30 = .ok (.aload_n 0, 1) := by decide +kernel
theorem dX11_dug_31 : decode cX11_dug 31 = .ok (.getfield 59, 3) := by decide +kernel
theorem dX11_dug_34 : decode cX11_dug 34 = .ok (.iload_n 1, 1) := by decide +kernel
theorem dX11_dug_35 : decode cX11_dug 35 = .ok (.iload_n 2, 1) := by decide +kernel
theorem dX11_dug_36 : decode cX11_dug 36 = .ok (.invokevirtual 324, 3) := by decide +kernel
theorem dX11_dug_39 : decode cX11_dug 39 = .ok (.istore_n 3, 1) := by decide +kernel
theorem dX11_dug_40 : decode cX11_dug 40 = .ok (.iload_n 3, 1) := by decide +kernel
theorem dX11_dug_41 : decode cX11_dug 41 = .ok (.iconst (-1), 1) := by decide +kernel
theorem dX11_dug_42 : decode cX11_dug 42 = .ok (.if_icmp .eq 5, 3) := by decide +kernel
theorem dX11_dug_45 : decode cX11_dug 45 = .ok (.iload_n 3, 1) := by decide +kernel
theorem dX11_dug_46 : decode cX11_dug 46 = .ok (.ireturn, 1) := by decide +kernel
theorem dX11_dug_47 : decode cX11_dug 47 = .ok (.aload_n 0, 1) := by decide +kernel
theorem dX11_dug_48 : decode cX11_dug 48 = .ok (.getfield 59, 3) := by decide +kernel
theorem dX11_dug_51 : decode cX11_dug 51 = .ok (.iload_n 1, 1) := by decide +kernel
theorem dX11_dug_52 : decode cX11_dug 52 = .ok (.invokevirtual 327, 3) := by decide +kernel
theorem dX11_dug_55 : decode cX11_dug 55 = .ok (.aload_n 0, 1) := by decide +kernel
theorem dX11_dug_56 : decode cX11_dug 56 = .ok (.getfield 33, 3) := by decide +kernel
theorem dX11_dug_59 : decode cX11_dug 59 = .ok (.invokevirtual 331, 3) := by decide +kernel
theorem dX11_dug_62 : decode cX11_dug 62 = .ok (.ireturn, 1) := by decide +kernel
set_option maxRecDepth 20000 in
theorem ggX11_believed_X11_isStory : GoodIn wsX11_believed wsX11_isStory := goodIn_r _ [6, 7, 8, 5, 9] (by decide +kernel) (by decide +kernel)
set_option maxRecDepth 20000 in
theorem gX11_believed_X11_isStory : GoodIn wsX11_believed (va_wsS RX11 308 yX11_isStory wsX11_isStory) := goodIn_app (goodIn_of _ (by decide +kernel)) ggX11_believed_X11_isStory
set_option maxRecDepth 20000 in
theorem ggX11_believed_X11_isBit : GoodIn wsX11_believed wsX11_isBit := goodIn_r _ [12] (by decide +kernel) (by decide +kernel)
set_option maxRecDepth 20000 in
theorem gX11_believed_X11_isBit : GoodIn wsX11_believed (va_wsS RX11 222 yX11_isBit wsX11_isBit) := goodIn_app (goodIn_of _ (by decide +kernel)) ggX11_believed_X11_isBit
set_option maxRecDepth 20000 in
theorem ggX11_believed_X8_part : GoodIn wsX11_believed wsX8_part := goodIn_r _ [17, 18, 19, 5, 20, 32, 33, 34, 35, 36, 37, 38, 39, 40] (by decide +kernel) (by decide +kernel)
set_option maxRecDepth 20000 in
theorem gX11_believed_X8_part : GoodIn wsX11_believed (wsV RX11 334 RX8 yX8_part wsX8_part) := goodIn_app (goodIn_of _ (by decide +kernel)) ggX11_believed_X8_part
theorem dX11_believed_0 : decode cX11_believed 0 = .ok (.iload_n 1, 1) := by decide +kernel
theorem dX11_believed_1 : decode cX11_believed 1 = .ok (.invokestatic 308, 3) := by decide +kernel
theorem dX11_believed_4 : decode cX11_believed 4 = .ok (.ifCond .eq 10, 3) := by decide +kernel
theorem dX11_believed_7 : decode cX11_believed 7 = .ok (.iload_n 2, 1) := by decide +kernel
theorem dX11_believed_8 : decode cX11_believed 8 = .ok (.invokestatic 222, 3) := by decide +kernel
theorem dX11_believed_11 : decode cX11_believed 11 = .ok (.ifCond .ne 7, 3) := by decide +kernel
theorem dX11_believed_14 : decode cX11_believed 14 = .ok (.ldc2_w 311, 3) := by decide +kernel
theorem dX11_believed_17 : decode cX11_believed 17 = .ok (.lreturn, 1) := by decide +kernel
theorem dX11_believed_18 : decode cX11_believed 18 = .ok (.aload_n 0, 1) := by decide +kernel
theorem dX11_believed_19 : decode cX11_believed 19 = .ok (.getfield 59, 3) := by decide +kernel
theorem dX11_believed_22 : decode cX11_believed 22 = .ok (.iload_n 1, 1) := by decide +kernel
theorem dX11_believed_23 : decode cX11_believed 23 = .ok (.iload_n 2, 1) := by decide +kernel
theorem dX11_believed_24 : decode cX11_believed 24 = .ok (.invokevirtual 334, 3) := by decide +kernel
theorem dX11_believed_27 : decode cX11_believed 27 = .ok (.lreturn, 1) := by decide +kernel
set_option maxRecDepth 20000 in
theorem ggX11_dig_X8_bestMarsh : GoodIn wsX11_dig wsX8_bestMarsh := goodIn_r _ [6, 7, 8, 9, 10, 11, 12, 13, 14, 15, 16, 17, 5, 18, 19, 20, 21, 22, 23, 24, 25, 26, 27, 39, 40, 41, 42, 43, 44, 45, 46, 47] (by decide +kernel) (by decide +kernel)
set_option maxRecDepth 20000 in
theorem gX11_dig_X8_bestMarsh : GoodIn wsX11_dig (wsV RX11 338 RX8 yX8_bestMarsh wsX8_bestMarsh) := goodIn_app (goodIn_of _ (by decide +kernel)) ggX11_dig_X8_bestMarsh
theorem dX11_dig_0 : decode cX11_dig 0 = .ok (.aload_n 0, 1) := by decide +kernel
theorem dX11_dig_1 : decode cX11_dig 1 = .ok (.getfield 59, 3) := by decide +kernel
theorem dX11_dig_4 : decode cX11_dig 4 = .ok (.invokevirtual 338, 3) := by decide +kernel
theorem dX11_dig_7 : decode cX11_dig 7 = .ok (.ireturn, 1) := by decide +kernel
set_option maxRecDepth 20000 in
theorem ggX11_minutes_X4_isSea : GoodIn wsX11_minutes wsX4_isSea := goodIn_r _ [7, 8, 9, 10, 11, 12, 13, 14, 44, 45, 46, 47, 48] (by decide +kernel) (by decide +kernel)
set_option maxRecDepth 20000 in
theorem gX11_minutes_X4_isSea : GoodIn wsX11_minutes (wsV RX11 134 RX4 yX4_isSea wsX4_isSea) := goodIn_app (goodIn_of _ (by decide +kernel)) ggX11_minutes_X4_isSea
set_option maxRecDepth 20000 in
theorem ggX11_minutes_X11_within : GoodIn wsX11_minutes wsX11_within := goodIn_r _ [14] (by decide +kernel) (by decide +kernel)
set_option maxRecDepth 20000 in
theorem gX11_minutes_X11_within : GoodIn wsX11_minutes (va_wsS RX11 84 yX11_within wsX11_within) := goodIn_app (goodIn_of _ (by decide +kernel)) ggX11_minutes_X11_within
set_option maxRecDepth 20000 in
theorem ggX11_minutes_X4_soonest : GoodIn wsX11_minutes wsX4_soonest := goodIn_r _ [18, 19, 20, 21, 22, 6, 23, 8, 24, 25, 26, 27, 28, 29, 30, 31, 32, 44, 45, 46, 47, 48] (by decide +kernel) (by decide +kernel)
set_option maxRecDepth 20000 in
theorem gX11_minutes_X4_soonest : GoodIn wsX11_minutes (wsV RX11 342 RX4 yX4_soonest wsX4_soonest) := goodIn_app (goodIn_of _ (by decide +kernel)) ggX11_minutes_X4_soonest
theorem dX11_minutes_0 : decode cX11_minutes 0 = .ok (.aload_n 0, 1) := by decide +kernel
theorem dX11_minutes_1 : decode cX11_minutes 1 = .ok (.getfield 19, 3) := by decide +kernel
theorem dX11_minutes_4 : decode cX11_minutes 4 = .ok (.iload_n 1, 1) := by decide +kernel
theorem dX11_minutes_5 : decode cX11_minutes 5 = .ok (.invokevirtual 134, 3) := by decide +kernel
theorem dX11_minutes_8 : decode cX11_minutes 8 = .ok (.ifCond .ne 5, 3) := by decide +kernel
theorem dX11_minutes_11 : decode cX11_minutes 11 = .ok (.iconst (-1), 1) := by decide +kernel
theorem dX11_minutes_12 : decode cX11_minutes 12 = .ok (.ireturn, 1) := by decide +kernel
theorem dX11_minutes_13 : decode cX11_minutes 13 = .ok (.iload_n 2, 1) := by decide +kernel
theorem dX11_minutes_14 : decode cX11_minutes 14 = .ok (.iconst 0, 1) := by decide +kernel
theorem dX11_minutes_15 : decode cX11_minutes 15 = .ok (.ldc_w 341, 3) := by decide +kernel
theorem dX11_minutes_18 : decode cX11_minutes 18 = .ok (.invokestatic 84, 3) := by decide +kernel
theorem dX11_minutes_21 : decode cX11_minutes 21 = .ok (.ifCond .eq 14, 3) := by decide +kernel
theorem dX11_minutes_24 : decode cX11_minutes 24 = .ok (.iload_n 3, 1) := by decide +kernel
theorem dX11_minutes_25 : decode cX11_minutes 25 = .ok (.iconst 0, 1) := by decide +kernel
theorem dX11_minutes_26 : decode cX11_minutes 26 = .ok (.ldc_w 341, 3) := by decide +kernel
theorem dX11_minutes_29 : decode cX11_minutes 29 = .ok (.invokestatic 84, 3) := by decide +kernel
theorem dX11_minutes_32 : decode cX11_minutes 32 = .ok (.ifCond .ne 5, 3) := by decide +kernel
theorem dX11_minutes_35 : decode cX11_minutes 35 = .ok (.iconst (-1), 1) := by decide +kernel
theorem dX11_minutes_36 : decode cX11_minutes 36 = .ok (.ireturn, 1) := by decide +kernel
theorem dX11_minutes_37 : decode cX11_minutes 37 = .ok (.aload_n 0, 1) := by decide +kernel
theorem dX11_minutes_38 : decode cX11_minutes 38 = .ok (.getfield 19, 3) := by decide +kernel
theorem dX11_minutes_41 : decode cX11_minutes 41 = .ok (.iload_n 1, 1) := by decide +kernel
theorem dX11_minutes_42 : decode cX11_minutes 42 = .ok (.iload_n 3, 1) := by decide +kernel
theorem dX11_minutes_43 : decode cX11_minutes 43 = .ok (.i2l, 1) := by decide +kernel
theorem dX11_minutes_44 : decode cX11_minutes 44 = .ok (.bipush 24, 2) := by decide +kernel
theorem dX11_minutes_46 : decode cX11_minutes 46 = .ok (.lshl, 1) := by decide +kernel
theorem dX11_minutes_47 : decode cX11_minutes 47 = .ok (.iload_n 2, 1) := by decide +kernel
theorem dX11_minutes_48 : decode cX11_minutes 48 = .ok (.i2l, 1) := by decide +kernel
theorem dX11_minutes_49 : decode cX11_minutes 49 = .ok (.lor, 1) := by decide +kernel
theorem dX11_minutes_50 : decode cX11_minutes 50 = .ok (.invokevirtual 342, 3) := by decide +kernel
theorem dX11_minutes_53 : decode cX11_minutes 53 = .ok (.ireturn, 1) := by decide +kernel
set_option maxRecDepth 20000 in
theorem ggX11_trust_X11_within : GoodIn wsX11_trust wsX11_within := goodIn_r _ [7] (by decide +kernel) (by decide +kernel)
set_option maxRecDepth 20000 in
theorem gX11_trust_X11_within : GoodIn wsX11_trust (va_wsS RX11 84 yX11_within wsX11_within) := goodIn_app (goodIn_of _ (by decide +kernel)) ggX11_trust_X11_within
set_option maxRecDepth 20000 in
theorem ggX11_trust_X7_asSign : GoodIn wsX11_trust wsX7_asSign := goodIn_r _ [12, 13, 14, 88, 89, 78, 79, 80, 81, 82, 83, 84, 85, 86, 87] (by decide +kernel) (by decide +kernel)
set_option maxRecDepth 20000 in
theorem gX11_trust_X7_asSign : GoodIn wsX11_trust (wsV RX11 346 RX7 yX7_asSign wsX7_asSign) := goodIn_app (goodIn_of _ (by decide +kernel)) ggX11_trust_X7_asSign
set_option maxRecDepth 20000 in
theorem ggX11_trust_X7_asSheet : GoodIn wsX11_trust wsX7_asSheet := goodIn_r _ [18, 13, 19, 14, 20, 9, 10, 11, 12, 21, 22, 23, 24, 25, 26, 27, 28, 88, 89, 78, 79, 80, 81, 82, 83, 84, 85, 86, 87] (by decide +kernel) (by decide +kernel)
set_option maxRecDepth 20000 in
theorem gX11_trust_X7_asSheet : GoodIn wsX11_trust (wsV RX11 349 RX7 yX7_asSheet wsX7_asSheet) := goodIn_app (goodIn_of _ (by decide +kernel)) ggX11_trust_X7_asSheet
set_option maxRecDepth 20000 in
theorem ggX11_trust_X7_asWritten : GoodIn wsX11_trust wsX7_asWritten := goodIn_r _ [32, 13, 33, 14, 20, 9, 10, 11, 12, 88, 89, 78, 79, 80, 81, 82, 83, 90, 91, 92, 93, 94, 95, 84, 85, 86, 87] (by decide +kernel) (by decide +kernel)
set_option maxRecDepth 20000 in
theorem gX11_trust_X7_asWritten : GoodIn wsX11_trust (wsV RX11 352 RX7 yX7_asWritten wsX7_asWritten) := goodIn_app (goodIn_of _ (by decide +kernel)) ggX11_trust_X7_asWritten
set_option maxRecDepth 20000 in
theorem ggX11_trust_X7_asSlid : GoodIn wsX11_trust wsX7_asSlid := goodIn_r _ [37, 13, 38, 14, 39, 40, 41, 24, 42, 26, 43, 44, 45, 46, 47, 48, 16, 17, 11, 18, 19, 20, 9, 10, 12, 21, 22, 23, 25, 27, 28, 49, 50, 51, 52, 53, 54, 55, 88, 89, 78, 79, 80, 81, 82, 83, 84, 85, 86, 87] (by decide +kernel) (by decide +kernel)
set_option maxRecDepth 20000 in
theorem gX11_trust_X7_asSlid : GoodIn wsX11_trust (wsV RX11 355 RX7 yX7_asSlid wsX7_asSlid) := goodIn_app (goodIn_of _ (by decide +kernel)) ggX11_trust_X7_asSlid
set_option maxRecDepth 20000 in
theorem ggX11_trust_X7_asTold : GoodIn wsX11_trust wsX7_asTold := goodIn_r _ [59, 13, 60, 61, 30, 31, 11, 32, 33, 14, 20, 9, 10, 12, 88, 89, 78, 79, 80, 81, 82, 83, 90, 91, 92, 93, 94, 95, 84, 85, 86, 87] (by decide +kernel) (by decide +kernel)
set_option maxRecDepth 20000 in
theorem gX11_trust_X7_asTold : GoodIn wsX11_trust (wsV RX11 358 RX7 yX7_asTold wsX7_asTold) := goodIn_app (goodIn_of _ (by decide +kernel)) ggX11_trust_X7_asTold
set_option maxRecDepth 20000 in
theorem ggX11_trust_X7_asAged : GoodIn wsX11_trust wsX7_asAged := goodIn_r _ [65, 13, 66, 14, 20, 9, 10, 11, 12, 88, 89, 78, 79, 80, 81, 82, 83, 84, 85, 86, 87] (by decide +kernel) (by decide +kernel)
set_option maxRecDepth 20000 in
theorem gX11_trust_X7_asAged : GoodIn wsX11_trust (wsV RX11 361 RX7 yX7_asAged wsX7_asAged) := goodIn_app (goodIn_of _ (by decide +kernel)) ggX11_trust_X7_asAged
theorem dX11_trust_0 : decode cX11_trust 0 = .ok (.iload_n 2, 1) := by decide +kernel
theorem dX11_trust_1 : decode cX11_trust 1 = .ok (.iconst 0, 1) := by decide +kernel
theorem dX11_trust_2 : decode cX11_trust 2 = .ok (.aload_n 0, 1) := by decide +kernel
theorem dX11_trust_3 : decode cX11_trust 3 = .ok (.getfield 33, 3) := by decide +kernel
theorem dX11_trust_6 : decode cX11_trust 6 = .ok (.getfield 250, 3) := by decide +kernel
theorem dX11_trust_9 : decode cX11_trust 9 = .ok (.getfield 254, 3) := by decide +kernel
theorem dX11_trust_12 : decode cX11_trust 12 = .ok (.iconst 1, 1) := by decide +kernel
theorem dX11_trust_13 : decode cX11_trust 13 = .ok (.isub, 1) := by decide +kernel
theorem dX11_trust_14 : decode cX11_trust 14 = .ok (.invokestatic 84, 3) := by decide +kernel
theorem dX11_trust_17 : decode cX11_trust 17 = .ok (.ifCond .ne 6, 3) := by decide +kernel
theorem dX11_trust_20 : decode cX11_trust 20 = .ok (.ldc 163, 2) := by decide +kernel
theorem dX11_trust_22 : decode cX11_trust 22 = .ok (.ireturn, 1) := by decide +kernel
theorem dX11_trust_23 : decode cX11_trust 23 = .ok (.iload_n 1, 1) := by decide +kernel
theorem dX11_trust_24 : decode cX11_trust 24 = .ok (.tableswitch 94 0 5 #[40, 49, 58, 67, 76, 85], 40) := by decide +kernel
theorem dX11_trust_64 : decode cX11_trust 64 = .ok (.aload_n 0, 1) := by decide +kernel
theorem dX11_trust_65 : decode cX11_trust 65 = .ok (.getfield 66, 3) := by decide +kernel
theorem dX11_trust_68 : decode cX11_trust 68 = .ok (.iload_n 2, 1) := by decide +kernel
theorem dX11_trust_69 : decode cX11_trust 69 = .ok (.invokevirtual 346, 3) := by decide +kernel
theorem dX11_trust_72 : decode cX11_trust 72 = .ok (.ireturn, 1) := by decide +kernel
theorem dX11_trust_73 : decode cX11_trust 73 = .ok (.aload_n 0, 1) := by decide +kernel
theorem dX11_trust_74 : decode cX11_trust 74 = .ok (.getfield 66, 3) := by decide +kernel
theorem dX11_trust_77 : decode cX11_trust 77 = .ok (.iload_n 2, 1) := by decide +kernel
theorem dX11_trust_78 : decode cX11_trust 78 = .ok (.invokevirtual 349, 3) := by decide +kernel
theorem dX11_trust_81 : decode cX11_trust 81 = .ok (.ireturn, 1) := by decide +kernel
theorem dX11_trust_82 : decode cX11_trust 82 = .ok (.aload_n 0, 1) := by decide +kernel
theorem dX11_trust_83 : decode cX11_trust 83 = .ok (.getfield 66, 3) := by decide +kernel
theorem dX11_trust_86 : decode cX11_trust 86 = .ok (.iload_n 2, 1) := by decide +kernel
theorem dX11_trust_87 : decode cX11_trust 87 = .ok (.invokevirtual 352, 3) := by decide +kernel
theorem dX11_trust_90 : decode cX11_trust 90 = .ok (.ireturn, 1) := by decide +kernel
theorem dX11_trust_91 : decode cX11_trust 91 = .ok (.aload_n 0, 1) := by decide +kernel
theorem dX11_trust_92 : decode cX11_trust 92 = .ok (.getfield 66, 3) := by decide +kernel
theorem dX11_trust_95 : decode cX11_trust 95 = .ok (.iload_n 2, 1) := by decide +kernel
theorem dX11_trust_96 : decode cX11_trust 96 = .ok (.invokevirtual 355, 3) := by decide +kernel
theorem dX11_trust_99 : decode cX11_trust 99 = .ok (.ireturn, 1) := by decide +kernel
theorem dX11_trust_100 : decode cX11_trust 100 = .ok (.aload_n 0, 1) := by decide +kernel
theorem dX11_trust_101 : decode cX11_trust 101 = .ok (.getfield 66, 3) := by decide +kernel
theorem dX11_trust_104 : decode cX11_trust 104 = .ok (.iload_n 2, 1) := by decide +kernel
theorem dX11_trust_105 : decode cX11_trust 105 = .ok (.invokevirtual 358, 3) := by decide +kernel
theorem dX11_trust_108 : decode cX11_trust 108 = .ok (.ireturn, 1) := by decide +kernel
theorem dX11_trust_109 : decode cX11_trust 109 = .ok (.aload_n 0, 1) := by decide +kernel
theorem dX11_trust_110 : decode cX11_trust 110 = .ok (.getfield 66, 3) := by decide +kernel
theorem dX11_trust_113 : decode cX11_trust 113 = .ok (.iload_n 2, 1) := by decide +kernel
theorem dX11_trust_114 : decode cX11_trust 114 = .ok (.invokevirtual 361, 3) := by decide +kernel
theorem dX11_trust_117 : decode cX11_trust 117 = .ok (.ireturn, 1) := by decide +kernel
theorem dX11_trust_118 : decode cX11_trust 118 = .ok (.ldc 163, 2) := by decide +kernel
theorem dX11_trust_120 : decode cX11_trust 120 = .ok (.ireturn, 1) := by decide +kernel
set_option maxRecDepth 20000 in
theorem ggX11_keep_X11_isImage : GoodIn wsX11_keep wsX11_isImage := goodIn_r _ [6, 7, 8, 5, 9] (by decide +kernel) (by decide +kernel)
set_option maxRecDepth 20000 in
theorem gX11_keep_X11_isImage : GoodIn wsX11_keep (va_wsS RX11 364 yX11_isImage wsX11_isImage) := goodIn_app (goodIn_of _ (by decide +kernel)) ggX11_keep_X11_isImage
set_option maxRecDepth 20000 in
theorem ggX11_keep_X2_become : GoodIn wsX11_keep wsX2_become := goodIn_r _ [14, 15, 16, 17, 18, 19, 20, 21, 22, 23, 24, 25, 26, 27, 28, 29, 30, 31, 32, 33, 34, 35, 36, 37, 38, 39, 40, 41, 42, 43, 44, 45, 46, 47, 48, 49, 50, 51, 52, 53, 65, 66, 67, 68, 69, 70, 75, 76, 77, 78, 79, 80, 71, 72, 73, 74, 81, 82] (by decide +kernel) (by decide +kernel)
set_option maxRecDepth 20000 in
theorem gX11_keep_X2_become : GoodIn wsX11_keep (wsV RX11 367 RX2 yX2_become wsX2_become) := goodIn_app (goodIn_of _ (by decide +kernel)) ggX11_keep_X2_become
theorem dX11_keep_0 : decode cX11_keep 0 = .ok (.iload_n 1, 1) := by decide +kernel
theorem dX11_keep_1 : decode cX11_keep 1 = .ok (.invokestatic 364, 3) := by decide +kernel
theorem dX11_keep_4 : decode cX11_keep 4 = .ok (.ifCond .ne 5, 3) := by decide +kernel
theorem dX11_keep_7 : decode cX11_keep 7 = .ok (.iconst (-1), 1) := by decide +kernel
theorem dX11_keep_8 : decode cX11_keep 8 = .ok (.ireturn, 1) := by decide +kernel
theorem dX11_keep_9 : decode cX11_keep 9 = .ok (.aload_n 0, 1) := by decide +kernel
theorem dX11_keep_10 : decode cX11_keep 10 = .ok (.getfield 37, 3) := by decide +kernel
theorem dX11_keep_13 : decode cX11_keep 13 = .ok (.iload_n 1, 1) := by decide +kernel
theorem dX11_keep_14 : decode cX11_keep 14 = .ok (.aaload, 1) := by decide +kernel
theorem dX11_keep_15 : decode cX11_keep 15 = .ok (.aload_n 0, 1) := by decide +kernel
theorem dX11_keep_16 : decode cX11_keep 16 = .ok (.getfield 33, 3) := by decide +kernel
theorem dX11_keep_19 : decode cX11_keep 19 = .ok (.invokevirtual 367, 3) := by decide +kernel
theorem dX11_keep_22 : decode cX11_keep 22 = .ok (.aload_n 0, 1) := by decide +kernel
theorem dX11_keep_23 : decode cX11_keep 23 = .ok (.getfield 37, 3) := by decide +kernel
theorem dX11_keep_26 : decode cX11_keep 26 = .ok (.iload_n 1, 1) := by decide +kernel
theorem dX11_keep_27 : decode cX11_keep 27 = .ok (.aaload, 1) := by decide +kernel
theorem dX11_keep_28 : decode cX11_keep 28 = .ok (.iconst 1, 1) := by decide +kernel
theorem dX11_keep_29 : decode cX11_keep 29 = .ok (.putfield 369, 3) := by decide +kernel
theorem dX11_keep_32 : decode cX11_keep 32 = .ok (.aload_n 0, 1) := by decide +kernel
theorem dX11_keep_33 : decode cX11_keep 33 = .ok (.getfield 33, 3) := by decide +kernel
theorem dX11_keep_36 : decode cX11_keep 36 = .ok (.getfield 250, 3) := by decide +kernel
theorem dX11_keep_39 : decode cX11_keep 39 = .ok (.getfield 254, 3) := by decide +kernel
theorem dX11_keep_42 : decode cX11_keep 42 = .ok (.ireturn, 1) := by decide +kernel
set_option maxRecDepth 20000 in
theorem ggX11_back_X11_isImage : GoodIn wsX11_back wsX11_isImage := goodIn_r _ [6, 7, 8, 5, 9] (by decide +kernel) (by decide +kernel)
set_option maxRecDepth 20000 in
theorem gX11_back_X11_isImage : GoodIn wsX11_back (va_wsS RX11 364 yX11_isImage wsX11_isImage) := goodIn_app (goodIn_of _ (by decide +kernel)) ggX11_back_X11_isImage
set_option maxRecDepth 20000 in
theorem ggX11_back_X2_become : GoodIn wsX11_back wsX2_become := goodIn_r _ [14, 15, 16, 17, 18, 19, 20, 21, 22, 23, 24, 25, 26, 27, 28, 29, 30, 31, 32, 33, 34, 35, 36, 37, 38, 39, 40, 41, 42, 43, 44, 45, 46, 47, 48, 49, 50, 51, 52, 53, 65, 66, 67, 68, 69, 70, 75, 76, 77, 78, 79, 80, 71, 72, 73, 74, 81, 82] (by decide +kernel) (by decide +kernel)
set_option maxRecDepth 20000 in
theorem gX11_back_X2_become : GoodIn wsX11_back (wsV RX11 367 RX2 yX2_become wsX2_become) := goodIn_app (goodIn_of _ (by decide +kernel)) ggX11_back_X2_become
theorem dX11_back_0 : decode cX11_back 0 = .ok (.iload_n 1, 1) := by decide +kernel
theorem dX11_back_1 : decode cX11_back 1 = .ok (.invokestatic 364, 3) := by decide +kernel
theorem dX11_back_4 : decode cX11_back 4 = .ok (.ifCond .ne 5, 3) := by decide +kernel
theorem dX11_back_7 : decode cX11_back 7 = .ok (.iconst (-1), 1) := by decide +kernel
theorem dX11_back_8 : decode cX11_back 8 = .ok (.ireturn, 1) := by decide +kernel
theorem dX11_back_9 : decode cX11_back 9 = .ok (.aload_n 0, 1) := by decide +kernel
theorem dX11_back_10 : decode cX11_back 10 = .ok (.getfield 37, 3) := by decide +kernel
theorem dX11_back_13 : decode cX11_back 13 = .ok (.iload_n 1, 1) := by decide +kernel
theorem dX11_back_14 : decode cX11_back 14 = .ok (.aaload, 1) := by decide +kernel
theorem dX11_back_15 : decode cX11_back 15 = .ok (.getfield 369, 3) := by decide +kernel
theorem dX11_back_18 : decode cX11_back 18 = .ok (.ifCond .ne 6, 3) := by decide +kernel
theorem dX11_back_21 : decode cX11_back 21 = .ok (.bipush (-2), 2) := by decide +kernel
theorem dX11_back_23 : decode cX11_back 23 = .ok (.ireturn, 1) := by decide +kernel
theorem dX11_back_24 : decode cX11_back 24 = .ok (.aload_n 0, 1) := by decide +kernel
theorem dX11_back_25 : decode cX11_back 25 = .ok (.getfield 33, 3) := by decide +kernel
theorem dX11_back_28 : decode cX11_back 28 = .ok (.aload_n 0, 1) := by decide +kernel
theorem dX11_back_29 : decode cX11_back 29 = .ok (.getfield 37, 3) := by decide +kernel
theorem dX11_back_32 : decode cX11_back 32 = .ok (.iload_n 1, 1) := by decide +kernel
theorem dX11_back_33 : decode cX11_back 33 = .ok (.aaload, 1) := by decide +kernel
theorem dX11_back_34 : decode cX11_back 34 = .ok (.invokevirtual 367, 3) := by decide +kernel
theorem dX11_back_37 : decode cX11_back 37 = .ok (.aload_n 0, 1) := by decide +kernel
theorem dX11_back_38 : decode cX11_back 38 = .ok (.getfield 33, 3) := by decide +kernel
theorem dX11_back_41 : decode cX11_back 41 = .ok (.getfield 250, 3) := by decide +kernel
theorem dX11_back_44 : decode cX11_back 44 = .ok (.getfield 254, 3) := by decide +kernel
theorem dX11_back_47 : decode cX11_back 47 = .ok (.ireturn, 1) := by decide +kernel
set_option maxRecDepth 20000 in
theorem ggX11_count_X4_seaCells : GoodIn wsX11_count wsX4_seaCells := goodIn_r _ [10, 11, 65, 66, 67, 68, 69] (by decide +kernel) (by decide +kernel)
set_option maxRecDepth 20000 in
theorem gX11_count_X4_seaCells : GoodIn wsX11_count (wsV RX11 103 RX4 yX4_seaCells wsX4_seaCells) := goodIn_app (goodIn_of _ (by decide +kernel)) ggX11_count_X4_seaCells
set_option maxRecDepth 20000 in
theorem ggX11_count_X2_dugCount : GoodIn wsX11_count wsX2_dugCount := goodIn_r _ [16, 17, 18, 19, 20, 21, 22, 23, 24, 36, 37, 38, 39, 40, 41] (by decide +kernel) (by decide +kernel)
set_option maxRecDepth 20000 in
theorem gX11_count_X2_dugCount : GoodIn wsX11_count (wsV RX11 331 RX2 yX2_dugCount wsX2_dugCount) := goodIn_app (goodIn_of _ (by decide +kernel)) ggX11_count_X2_dugCount
theorem dX11_count_0 : decode cX11_count 0 = .ok (.iload_n 1, 1) := by decide +kernel
theorem dX11_count_1 : decode cX11_count 1 = .ok (.tableswitch 120 0 7 #[47, 55, 66, 74, 82, 93, 104, 112], 47) := by decide +kernel
theorem dX11_count_48 : decode cX11_count 48 = .ok (.aload_n 0, 1) := by decide +kernel
theorem dX11_count_49 : decode cX11_count 49 = .ok (.getfield 19, 3) := by decide +kernel
theorem dX11_count_52 : decode cX11_count 52 = .ok (.invokevirtual 103, 3) := by decide +kernel
theorem dX11_count_55 : decode cX11_count 55 = .ok (.ireturn, 1) := by decide +kernel
theorem dX11_count_56 : decode cX11_count 56 = .ok (.aload_n 0, 1) := by decide +kernel
theorem dX11_count_57 : decode cX11_count 57 = .ok (.getfield 33, 3) := by decide +kernel
theorem dX11_count_60 : decode cX11_count 60 = .ok (.getfield 43, 3) := by decide +kernel
theorem dX11_count_63 : decode cX11_count 63 = .ok (.getfield 141, 3) := by decide +kernel
theorem dX11_count_66 : decode cX11_count 66 = .ok (.ireturn, 1) := by decide +kernel
theorem dX11_count_67 : decode cX11_count 67 = .ok (.aload_n 0, 1) := by decide +kernel
theorem dX11_count_68 : decode cX11_count 68 = .ok (.getfield 73, 3) := by decide +kernel
theorem dX11_count_71 : decode cX11_count 71 = .ok (.getfield 180, 3) := by decide +kernel
theorem dX11_count_74 : decode cX11_count 74 = .ok (.ireturn, 1) := by decide +kernel
theorem dX11_count_75 : decode cX11_count 75 = .ok (.aload_n 0, 1) := by decide +kernel
theorem dX11_count_76 : decode cX11_count 76 = .ok (.getfield 26, 3) := by decide +kernel
theorem dX11_count_79 : decode cX11_count 79 = .ok (.getfield 204, 3) := by decide +kernel
theorem dX11_count_82 : decode cX11_count 82 = .ok (.ireturn, 1) := by decide +kernel
theorem dX11_count_83 : decode cX11_count 83 = .ok (.aload_n 0, 1) := by decide +kernel
theorem dX11_count_84 : decode cX11_count 84 = .ok (.getfield 33, 3) := by decide +kernel
theorem dX11_count_87 : decode cX11_count 87 = .ok (.getfield 250, 3) := by decide +kernel
theorem dX11_count_90 : decode cX11_count 90 = .ok (.getfield 254, 3) := by decide +kernel
theorem dX11_count_93 : decode cX11_count 93 = .ok (.ireturn, 1) := by decide +kernel
theorem dX11_count_94 : decode cX11_count 94 = .ok (.aload_n 0, 1) := by decide +kernel
theorem dX11_count_95 : decode cX11_count 95 = .ok (.getfield 33, 3) := by decide +kernel
theorem dX11_count_98 : decode cX11_count 98 = .ok (.getfield 290, 3) := by decide +kernel
theorem dX11_count_101 : decode cX11_count 101 = .ok (.getfield 299, 3) := by decide +kernel
theorem dX11_count_104 : decode cX11_count 104 = .ok (.ireturn, 1) := by decide +kernel
theorem dX11_count_105 : decode cX11_count 105 = .ok (.aload_n 0, 1) := by decide +kernel
theorem dX11_count_106 : decode cX11_count 106 = .ok (.getfield 33, 3) := by decide +kernel
theorem dX11_count_109 : decode cX11_count 109 = .ok (.invokevirtual 331, 3) := by decide +kernel
theorem dX11_count_112 : decode cX11_count 112 = .ok (.ireturn, 1) := by decide +kernel
theorem dX11_count_113 : decode cX11_count 113 = .ok (.aload_n 0, 1) := by decide +kernel
theorem dX11_count_114 : decode cX11_count 114 = .ok (.getfield 12, 3) := by decide +kernel
theorem dX11_count_117 : decode cX11_count 117 = .ok (.getfield 88, 3) := by decide +kernel
theorem dX11_count_120 : decode cX11_count 120 = .ok (.ireturn, 1) := by decide +kernel
theorem dX11_count_121 : decode cX11_count 121 = .ok (.iconst (-1), 1) := by decide +kernel
theorem dX11_count_122 : decode cX11_count 122 = .ok (.ireturn, 1) := by decide +kernel
theorem dX11_trace_0 : decode cX11_trace 0 = .ok (.aload_n 0, 1) := by decide +kernel
theorem dX11_trace_1 : decode cX11_trace 1 = .ok (.getfield 66, 3) := by decide +kernel
theorem dX11_trace_4 : decode cX11_trace 4 = .ok (.getfield 373, 3) := by decide +kernel
theorem dX11_trace_7 : decode cX11_trace 7 = .ok (.lreturn, 1) := by decide +kernel
theorem dX11_within_0 : decode cX11_within 0 = .ok (.iload_n 0, 1) := by decide +kernel
theorem dX11_within_1 : decode cX11_within 1 = .ok (.iload_n 1, 1) := by decide +kernel
theorem dX11_within_2 : decode cX11_within 2 = .ok (.if_icmp .lt 12, 3) := by decide +kernel
theorem dX11_within_5 : decode cX11_within 5 = .ok (.iload_n 0, 1) := by decide +kernel
theorem dX11_within_6 : decode cX11_within 6 = .ok (.iload_n 2, 1) := by decide +kernel
theorem dX11_within_7 : decode cX11_within 7 = .ok (.if_icmp .gt 7, 3) := by decide +kernel
theorem dX11_within_10 : decode cX11_within 10 = .ok (.iconst 1, 1) := by decide +kernel
theorem dX11_within_11 : decode cX11_within 11 = .ok (.goto 4, 3) := by decide +kernel
theorem dX11_within_14 : decode cX11_within 14 = .ok (.iconst 0, 1) := by decide +kernel
theorem dX11_within_15 : decode cX11_within 15 = .ok (.ireturn, 1) := by decide +kernel
theorem dX11_isSpan_0 : decode cX11_isSpan 0 = .ok (.iload_n 0, 1) := by decide +kernel
theorem dX11_isSpan_1 : decode cX11_isSpan 1 = .ok (.iload_n 2, 1) := by decide +kernel
theorem dX11_isSpan_2 : decode cX11_isSpan 2 = .ok (.if_icmp .lt 17, 3) := by decide +kernel
theorem dX11_isSpan_5 : decode cX11_isSpan 5 = .ok (.iload_n 0, 1) := by decide +kernel
theorem dX11_isSpan_6 : decode cX11_isSpan 6 = .ok (.iload_n 1, 1) := by decide +kernel
theorem dX11_isSpan_7 : decode cX11_isSpan 7 = .ok (.if_icmp .gt 12, 3) := by decide +kernel
theorem dX11_isSpan_10 : decode cX11_isSpan 10 = .ok (.iload_n 1, 1) := by decide +kernel
theorem dX11_isSpan_11 : decode cX11_isSpan 11 = .ok (.iload_n 3, 1) := by decide +kernel
theorem dX11_isSpan_12 : decode cX11_isSpan 12 = .ok (.if_icmp .gt 7, 3) := by decide +kernel
theorem dX11_isSpan_15 : decode cX11_isSpan 15 = .ok (.iconst 1, 1) := by decide +kernel
theorem dX11_isSpan_16 : decode cX11_isSpan 16 = .ok (.goto 4, 3) := by decide +kernel
theorem dX11_isSpan_19 : decode cX11_isSpan 19 = .ok (.iconst 0, 1) := by decide +kernel
theorem dX11_isSpan_20 : decode cX11_isSpan 20 = .ok (.ireturn, 1) := by decide +kernel
set_option maxRecDepth 20000 in
theorem ggX11_isCell_X11_within : GoodIn wsX11_isCell wsX11_within := goodIn_r _ [4] (by decide +kernel) (by decide +kernel)
set_option maxRecDepth 20000 in
theorem gX11_isCell_X11_within : GoodIn wsX11_isCell (va_wsS RX11 84 yX11_within wsX11_within) := goodIn_app (goodIn_of _ (by decide +kernel)) ggX11_isCell_X11_within
theorem dX11_isCell_0 : decode cX11_isCell 0 = .ok (.iload_n 0, 1) := by decide +kernel
theorem dX11_isCell_1 : decode cX11_isCell 1 = .ok (.iconst 0, 1) := by decide +kernel
theorem dX11_isCell_2 : decode cX11_isCell 2 = .ok (.bipush 47, 2) := by decide +kernel
theorem dX11_isCell_4 : decode cX11_isCell 4 = .ok (.invokestatic 84, 3) := by decide +kernel
theorem dX11_isCell_7 : decode cX11_isCell 7 = .ok (.ireturn, 1) := by decide +kernel
set_option maxRecDepth 20000 in
theorem ggX11_isSize_X11_within : GoodIn wsX11_isSize wsX11_within := goodIn_r _ [4] (by decide +kernel) (by decide +kernel)
set_option maxRecDepth 20000 in
theorem gX11_isSize_X11_within : GoodIn wsX11_isSize (va_wsS RX11 84 yX11_within wsX11_within) := goodIn_app (goodIn_of _ (by decide +kernel)) ggX11_isSize_X11_within
theorem dX11_isSize_0 : decode cX11_isSize 0 = .ok (.iload_n 0, 1) := by decide +kernel
theorem dX11_isSize_1 : decode cX11_isSize 1 = .ok (.iconst 1, 1) := by decide +kernel
theorem dX11_isSize_2 : decode cX11_isSize 2 = .ok (.bipush 99, 2) := by decide +kernel
theorem dX11_isSize_4 : decode cX11_isSize 4 = .ok (.invokestatic 84, 3) := by decide +kernel
theorem dX11_isSize_7 : decode cX11_isSize 7 = .ok (.ireturn, 1) := by decide +kernel
set_option maxRecDepth 20000 in
theorem ggX11_isYear_X11_within : GoodIn wsX11_isYear wsX11_within := goodIn_r _ [4] (by decide +kernel) (by decide +kernel)
set_option maxRecDepth 20000 in
theorem gX11_isYear_X11_within : GoodIn wsX11_isYear (va_wsS RX11 84 yX11_within wsX11_within) := goodIn_app (goodIn_of _ (by decide +kernel)) ggX11_isYear_X11_within
theorem dX11_isYear_0 : decode cX11_isYear 0 = .ok (.iload_n 0, 1) := by decide +kernel
theorem dX11_isYear_1 : decode cX11_isYear 1 = .ok (.iconst 0, 1) := by decide +kernel
theorem dX11_isYear_2 : decode cX11_isYear 2 = .ok (.sipush 9999, 3) := by decide +kernel
theorem dX11_isYear_5 : decode cX11_isYear 5 = .ok (.invokestatic 84, 3) := by decide +kernel
theorem dX11_isYear_8 : decode cX11_isYear 8 = .ok (.ireturn, 1) := by decide +kernel
set_option maxRecDepth 20000 in
theorem ggX11_isWood_X11_within : GoodIn wsX11_isWood wsX11_within := goodIn_r _ [4] (by decide +kernel) (by decide +kernel)
set_option maxRecDepth 20000 in
theorem gX11_isWood_X11_within : GoodIn wsX11_isWood (va_wsS RX11 84 yX11_within wsX11_within) := goodIn_app (goodIn_of _ (by decide +kernel)) ggX11_isWood_X11_within
theorem dX11_isWood_0 : decode cX11_isWood 0 = .ok (.iload_n 0, 1) := by decide +kernel
theorem dX11_isWood_1 : decode cX11_isWood 1 = .ok (.iconst 0, 1) := by decide +kernel
theorem dX11_isWood_2 : decode cX11_isWood 2 = .ok (.iconst 3, 1) := by decide +kernel
theorem dX11_isWood_3 : decode cX11_isWood 3 = .ok (.invokestatic 84, 3) := by decide +kernel
theorem dX11_isWood_6 : decode cX11_isWood 6 = .ok (.ireturn, 1) := by decide +kernel
set_option maxRecDepth 20000 in
theorem ggX11_isWidth_X11_within : GoodIn wsX11_isWidth wsX11_within := goodIn_r _ [4] (by decide +kernel) (by decide +kernel)
set_option maxRecDepth 20000 in
theorem gX11_isWidth_X11_within : GoodIn wsX11_isWidth (va_wsS RX11 84 yX11_within wsX11_within) := goodIn_app (goodIn_of _ (by decide +kernel)) ggX11_isWidth_X11_within
theorem dX11_isWidth_0 : decode cX11_isWidth 0 = .ok (.iload_n 0, 1) := by decide +kernel
theorem dX11_isWidth_1 : decode cX11_isWidth 1 = .ok (.iconst 0, 1) := by decide +kernel
theorem dX11_isWidth_2 : decode cX11_isWidth 2 = .ok (.bipush 99, 2) := by decide +kernel
theorem dX11_isWidth_4 : decode cX11_isWidth 4 = .ok (.invokestatic 84, 3) := by decide +kernel
theorem dX11_isWidth_7 : decode cX11_isWidth 7 = .ok (.ireturn, 1) := by decide +kernel
set_option maxRecDepth 20000 in
theorem ggX11_isMarsh_X11_within : GoodIn wsX11_isMarsh wsX11_within := goodIn_r _ [4] (by decide +kernel) (by decide +kernel)
set_option maxRecDepth 20000 in
theorem gX11_isMarsh_X11_within : GoodIn wsX11_isMarsh (va_wsS RX11 84 yX11_within wsX11_within) := goodIn_app (goodIn_of _ (by decide +kernel)) ggX11_isMarsh_X11_within
theorem dX11_isMarsh_0 : decode cX11_isMarsh 0 = .ok (.iload_n 0, 1) := by decide +kernel
theorem dX11_isMarsh_1 : decode cX11_isMarsh 1 = .ok (.iconst 0, 1) := by decide +kernel
theorem dX11_isMarsh_2 : decode cX11_isMarsh 2 = .ok (.iconst 5, 1) := by decide +kernel
theorem dX11_isMarsh_3 : decode cX11_isMarsh 3 = .ok (.invokestatic 84, 3) := by decide +kernel
theorem dX11_isMarsh_6 : decode cX11_isMarsh 6 = .ok (.ireturn, 1) := by decide +kernel
set_option maxRecDepth 20000 in
theorem ggX11_isStory_X11_within : GoodIn wsX11_isStory wsX11_within := goodIn_r _ [4] (by decide +kernel) (by decide +kernel)
set_option maxRecDepth 20000 in
theorem gX11_isStory_X11_within : GoodIn wsX11_isStory (va_wsS RX11 84 yX11_within wsX11_within) := goodIn_app (goodIn_of _ (by decide +kernel)) ggX11_isStory_X11_within
theorem dX11_isStory_0 : decode cX11_isStory 0 = .ok (.iload_n 0, 1) := by decide +kernel
theorem dX11_isStory_1 : decode cX11_isStory 1 = .ok (.iconst 0, 1) := by decide +kernel
theorem dX11_isStory_2 : decode cX11_isStory 2 = .ok (.iconst 4, 1) := by decide +kernel
theorem dX11_isStory_3 : decode cX11_isStory 3 = .ok (.invokestatic 84, 3) := by decide +kernel
theorem dX11_isStory_6 : decode cX11_isStory 6 = .ok (.ireturn, 1) := by decide +kernel
set_option maxRecDepth 20000 in
theorem ggX11_isImage_X11_within : GoodIn wsX11_isImage wsX11_within := goodIn_r _ [4] (by decide +kernel) (by decide +kernel)
set_option maxRecDepth 20000 in
theorem gX11_isImage_X11_within : GoodIn wsX11_isImage (va_wsS RX11 84 yX11_within wsX11_within) := goodIn_app (goodIn_of _ (by decide +kernel)) ggX11_isImage_X11_within
theorem dX11_isImage_0 : decode cX11_isImage 0 = .ok (.iload_n 0, 1) := by decide +kernel
theorem dX11_isImage_1 : decode cX11_isImage 1 = .ok (.iconst 0, 1) := by decide +kernel
theorem dX11_isImage_2 : decode cX11_isImage 2 = .ok (.iconst 1, 1) := by decide +kernel
theorem dX11_isImage_3 : decode cX11_isImage 3 = .ok (.invokestatic 84, 3) := by decide +kernel
theorem dX11_isImage_6 : decode cX11_isImage 6 = .ok (.ireturn, 1) := by decide +kernel
theorem dX11_isBit_0 : decode cX11_isBit 0 = .ok (.iload_n 0, 1) := by decide +kernel
theorem dX11_isBit_1 : decode cX11_isBit 1 = .ok (.ifCond .eq 8, 3) := by decide +kernel
theorem dX11_isBit_4 : decode cX11_isBit 4 = .ok (.iload_n 0, 1) := by decide +kernel
theorem dX11_isBit_5 : decode cX11_isBit 5 = .ok (.iconst 1, 1) := by decide +kernel
theorem dX11_isBit_6 : decode cX11_isBit 6 = .ok (.if_icmp .ne 7, 3) := by decide +kernel
theorem dX11_isBit_9 : decode cX11_isBit 9 = .ok (.iconst 1, 1) := by decide +kernel
theorem dX11_isBit_10 : decode cX11_isBit 10 = .ok (.goto 4, 3) := by decide +kernel
theorem dX11_isBit_13 : decode cX11_isBit 13 = .ok (.iconst 0, 1) := by decide +kernel
theorem dX11_isBit_14 : decode cX11_isBit 14 = .ok (.ireturn, 1) := by decide +kernel
theorem dX11_commonPart_0 : decode cX11_commonPart 0 = .ok (.lload_n 0, 1) := by decide +kernel
theorem dX11_commonPart_1 : decode cX11_commonPart 1 = .ok (.lstore 4, 2) := by decide +kernel
theorem dX11_commonPart_3 : decode cX11_commonPart 3 = .ok (.lload_n 2, 1) := by decide +kernel
theorem dX11_commonPart_4 : decode cX11_commonPart 4 = .ok (.lstore 6, 2) := by decide +kernel
theorem dX11_commonPart_6 : decode cX11_commonPart 6 = .ok (.iconst 0, 1) := by decide +kernel
theorem dX11_commonPart_7 : decode cX11_commonPart 7 = .ok (.istore 8, 2) := by decide +kernel
theorem dX11_commonPart_9 : decode cX11_commonPart 9 = .ok (.iload 8, 2) := by decide +kernel
theorem dX11_commonPart_11 : decode cX11_commonPart 11 = .ok (.sipush 128, 3) := by decide +kernel
theorem dX11_commonPart_14 : decode cX11_commonPart 14 = .ok (.if_icmp .ge 31, 3) := by decide +kernel
theorem dX11_commonPart_17 : decode cX11_commonPart 17 = .ok (.lload 6, 2) := by decide +kernel
theorem dX11_commonPart_19 : decode cX11_commonPart 19 = .ok (.lconst 0, 1) := by decide +kernel
theorem dX11_commonPart_20 : decode cX11_commonPart 20 = .ok (.lcmp, 1) := by decide +kernel
theorem dX11_commonPart_21 : decode cX11_commonPart 21 = .ok (.ifCond .eq 24, 3) := by decide +kernel
theorem dX11_commonPart_24 : decode cX11_commonPart 24 = .ok (.lload 4, 2) := by decide +kernel
theorem dX11_commonPart_26 : decode cX11_commonPart 26 = .ok (.lload 6, 2) := by decide +kernel
theorem dX11_commonPart_28 : decode cX11_commonPart 28 = .ok (.lrem, 1) := by decide +kernel
theorem dX11_commonPart_29 : decode cX11_commonPart 29 = .ok (.lstore 9, 2) := by decide +kernel
theorem dX11_commonPart_31 : decode cX11_commonPart 31 = .ok (.lload 6, 2) := by decide +kernel
theorem dX11_commonPart_33 : decode cX11_commonPart 33 = .ok (.lstore 4, 2) := by decide +kernel
theorem dX11_commonPart_35 : decode cX11_commonPart 35 = .ok (.lload 9, 2) := by decide +kernel
theorem dX11_commonPart_37 : decode cX11_commonPart 37 = .ok (.lstore 6, 2) := by decide +kernel
theorem dX11_commonPart_39 : decode cX11_commonPart 39 = .ok (.iinc 8 1, 3) := by decide +kernel
theorem dX11_commonPart_42 : decode cX11_commonPart 42 = .ok (.goto (-33), 3) := by decide +kernel
theorem dX11_commonPart_45 : decode cX11_commonPart 45 = .ok (.lload 4, 2) := by decide +kernel
theorem dX11_commonPart_47 : decode cX11_commonPart 47 = .ok (.lreturn, 1) := by decide +kernel
theorem dX12_init_0 : decode cX12_init 0 = .ok (.aload_n 0, 1) := by decide +kernel
theorem dX12_init_1 : decode cX12_init 1 = .ok (.invokespecial 1, 3) := by decide +kernel
theorem dX12_init_4 : decode cX12_init 4 = .ok (.aload_n 0, 1) := by decide +kernel
theorem dX12_init_5 : decode cX12_init 5 = .ok (.sipush 400, 3) := by decide +kernel
theorem dX12_init_8 : decode cX12_init 8 = .ok (.newarray .byte, 2) := by decide +kernel
theorem dX12_init_10 : decode cX12_init 10 = .ok (.putfield 7, 3) := by decide +kernel
theorem dX12_init_13 : decode cX12_init 13 = .ok (.aload_n 0, 1) := by decide +kernel
theorem dX12_init_14 : decode cX12_init 14 = .ok (.bipush 96, 2) := by decide +kernel
theorem dX12_init_16 : decode cX12_init 16 = .ok (.newarray .int, 2) := by decide +kernel
theorem dX12_init_18 : decode cX12_init 18 = .ok (.putfield 13, 3) := by decide +kernel
theorem dX12_init_21 : decode cX12_init 21 = .ok (.aload_n 0, 1) := by decide +kernel
theorem dX12_init_22 : decode cX12_init 22 = .ok (.iconst 3, 1) := by decide +kernel
theorem dX12_init_23 : decode cX12_init 23 = .ok (.newarray .int, 2) := by decide +kernel
theorem dX12_init_25 : decode cX12_init 25 = .ok (.putfield 17, 3) := by decide +kernel
theorem dX12_init_28 : decode cX12_init 28 = .ok (.aload_n 0, 1) := by decide +kernel
theorem dX12_init_29 : decode cX12_init 29 = .ok (.bipush 48, 2) := by decide +kernel
theorem dX12_init_31 : decode cX12_init 31 = .ok (.newarray .int, 2) := by decide +kernel
theorem dX12_init_33 : decode cX12_init 33 = .ok (.putfield 20, 3) := by decide +kernel
theorem dX12_init_36 : decode cX12_init 36 = .ok (.aload_n 0, 1) := by decide +kernel
theorem dX12_init_37 : decode cX12_init 37 = .ok (.iconst 3, 1) := by decide +kernel
theorem dX12_init_38 : decode cX12_init 38 = .ok (.newarray .int, 2) := by decide +kernel
theorem dX12_init_40 : decode cX12_init 40 = .ok (.putfield 23, 3) := by decide +kernel
theorem dX12_init_43 : decode cX12_init 43 = .ok (.aload_n 0, 1) := by decide +kernel
theorem dX12_init_44 : decode cX12_init 44 = .ok (.bipush 90, 2) := by decide +kernel
theorem dX12_init_46 : decode cX12_init 46 = .ok (.newarray .int, 2) := by decide +kernel
theorem dX12_init_48 : decode cX12_init 48 = .ok (.putfield 26, 3) := by decide +kernel
theorem dX12_init_51 : decode cX12_init 51 = .ok (.aload_n 0, 1) := by decide +kernel
theorem dX12_init_52 : decode cX12_init 52 = .ok (.iconst 2, 1) := by decide +kernel
theorem dX12_init_53 : decode cX12_init 53 = .ok (.newarray .int, 2) := by decide +kernel
theorem dX12_init_55 : decode cX12_init 55 = .ok (.putfield 29, 3) := by decide +kernel
theorem dX12_init_58 : decode cX12_init 58 = .ok (.aload_n 0, 1) := by decide +kernel
theorem dX12_init_59 : decode cX12_init 59 = .ok (.sipush 224, 3) := by decide +kernel
theorem dX12_init_62 : decode cX12_init 62 = .ok (.newarray .int, 2) := by decide +kernel
theorem dX12_init_64 : decode cX12_init 64 = .ok (.putfield 32, 3) := by decide +kernel
theorem dX12_init_67 : decode cX12_init 67 = .ok (.aload_n 0, 1) := by decide +kernel
theorem dX12_init_68 : decode cX12_init 68 = .ok (.bipush 60, 2) := by decide +kernel
theorem dX12_init_70 : decode cX12_init 70 = .ok (.newarray .int, 2) := by decide +kernel
theorem dX12_init_72 : decode cX12_init 72 = .ok (.putfield 35, 3) := by decide +kernel
theorem dX12_init_75 : decode cX12_init 75 = .ok (.aload_n 0, 1) := by decide +kernel
theorem dX12_init_76 : decode cX12_init 76 = .ok (.iconst 4, 1) := by decide +kernel
theorem dX12_init_77 : decode cX12_init 77 = .ok (.newarray .int, 2) := by decide +kernel
theorem dX12_init_79 : decode cX12_init 79 = .ok (.putfield 38, 3) := by decide +kernel
theorem dX12_init_82 : decode cX12_init 82 = .ok (.aload_n 0, 1) := by decide +kernel
theorem dX12_init_83 : decode cX12_init 83 = .ok (.iconst 4, 1) := by decide +kernel
theorem dX12_init_84 : decode cX12_init 84 = .ok (.newarray .int, 2) := by decide +kernel
theorem dX12_init_86 : decode cX12_init 86 = .ok (.putfield 41, 3) := by decide +kernel
theorem dX12_init_89 : decode cX12_init 89 = .ok (.aload_n 0, 1) := by decide +kernel
theorem dX12_init_90 : decode cX12_init 90 = .ok (.bipush 120, 2) := by decide +kernel
theorem dX12_init_92 : decode cX12_init 92 = .ok (.newarray .int, 2) := by decide +kernel
theorem dX12_init_94 : decode cX12_init 94 = .ok (.putfield 44, 3) := by decide +kernel
theorem dX12_init_97 : decode cX12_init 97 = .ok (.aload_n 0, 1) := by decide +kernel
theorem dX12_init_98 : decode cX12_init 98 = .ok (.iconst 3, 1) := by decide +kernel
theorem dX12_init_99 : decode cX12_init 99 = .ok (.newarray .int, 2) := by decide +kernel
theorem dX12_init_101 : decode cX12_init 101 = .ok (.putfield 47, 3) := by decide +kernel
theorem dX12_init_104 : decode cX12_init 104 = .ok (.aload_n 0, 1) := by decide +kernel
theorem dX12_init_105 : decode cX12_init 105 = .ok (.bipush 36, 2) := by decide +kernel
theorem dX12_init_107 : decode cX12_init 107 = .ok (.newarray .int, 2) := by decide +kernel
theorem dX12_init_109 : decode cX12_init 109 = .ok (.putfield 50, 3) := by decide +kernel
theorem dX12_init_112 : decode cX12_init 112 = .ok (.aload_n 0, 1) := by decide +kernel
theorem dX12_init_113 : decode cX12_init 113 = .ok (.bipush 36, 2) := by decide +kernel
theorem dX12_init_115 : decode cX12_init 115 = .ok (.newarray .int, 2) := by decide +kernel
theorem dX12_init_117 : decode cX12_init 117 = .ok (.putfield 53, 3) := by decide +kernel
theorem dX12_init_120 : decode cX12_init 120 = .ok (.aload_n 0, 1) := by decide +kernel
theorem dX12_init_121 : decode cX12_init 121 = .ok (.bipush 36, 2) := by decide +kernel
theorem dX12_init_123 : decode cX12_init 123 = .ok (.newarray .int, 2) := by decide +kernel
theorem dX12_init_125 : decode cX12_init 125 = .ok (.putfield 56, 3) := by decide +kernel
theorem dX12_init_128 : decode cX12_init 128 = .ok (.aload_n 0, 1) := by decide +kernel
theorem dX12_init_129 : decode cX12_init 129 = .ok (.iconst 3, 1) := by decide +kernel
theorem dX12_init_130 : decode cX12_init 130 = .ok (.newarray .int, 2) := by decide +kernel
theorem dX12_init_132 : decode cX12_init 132 = .ok (.putfield 59, 3) := by decide +kernel
theorem dX12_init_135 : decode cX12_init 135 = .ok (.aload_n 0, 1) := by decide +kernel
theorem dX12_init_136 : decode cX12_init 136 = .ok (.bipush 48, 2) := by decide +kernel
theorem dX12_init_138 : decode cX12_init 138 = .ok (.newarray .int, 2) := by decide +kernel
theorem dX12_init_140 : decode cX12_init 140 = .ok (.putfield 62, 3) := by decide +kernel
theorem dX12_init_143 : decode cX12_init 143 = .ok (.aload_n 0, 1) := by decide +kernel
theorem dX12_init_144 : decode cX12_init 144 = .ok (.bipush 15, 2) := by decide +kernel
theorem dX12_init_146 : decode cX12_init 146 = .ok (.newarray .long, 2) := by decide +kernel
theorem dX12_init_148 : decode cX12_init 148 = .ok (.putfield 65, 3) := by decide +kernel
theorem dX12_init_151 : decode cX12_init 151 = .ok (.aload_n 0, 1) := by decide +kernel
theorem dX12_init_152 : decode cX12_init 152 = .ok (.bipush 30, 2) := by decide +kernel
theorem dX12_init_154 : decode cX12_init 154 = .ok (.newarray .int, 2) := by decide +kernel
theorem dX12_init_156 : decode cX12_init 156 = .ok (.putfield 69, 3) := by decide +kernel
theorem dX12_init_159 : decode cX12_init 159 = .ok (.aload_n 0, 1) := by decide +kernel
theorem dX12_init_160 : decode cX12_init 160 = .ok (.iconst 3, 1) := by decide +kernel
theorem dX12_init_161 : decode cX12_init 161 = .ok (.newarray .int, 2) := by decide +kernel
theorem dX12_init_163 : decode cX12_init 163 = .ok (.putfield 72, 3) := by decide +kernel
theorem dX12_init_166 : decode cX12_init 166 = .ok (.aload_n 0, 1) := by decide +kernel
theorem dX12_init_167 : decode cX12_init 167 = .ok (.iconst 5, 1) := by decide +kernel
theorem dX12_init_168 : decode cX12_init 168 = .ok (.newarray .long, 2) := by decide +kernel
theorem dX12_init_170 : decode cX12_init 170 = .ok (.putfield 75, 3) := by decide +kernel
theorem dX12_init_173 : decode cX12_init 173 = .ok (.aload_n 0, 1) := by decide +kernel
theorem dX12_init_174 : decode cX12_init 174 = .ok (.iconst 2, 1) := by decide +kernel
theorem dX12_init_175 : decode cX12_init 175 = .ok (.newarray .boolean, 2) := by decide +kernel
theorem dX12_init_177 : decode cX12_init 177 = .ok (.putfield 78, 3) := by decide +kernel
theorem dX12_init_180 : decode cX12_init 180 = .ok (.aload_n 0, 1) := by decide +kernel
theorem dX12_init_181 : decode cX12_init 181 = .ok (.getfield 17, 3) := by decide +kernel
theorem dX12_init_184 : decode cX12_init 184 = .ok (.iconst 0, 1) := by decide +kernel
theorem dX12_init_185 : decode cX12_init 185 = .ok (.iconst 3, 1) := by decide +kernel
theorem dX12_init_186 : decode cX12_init 186 = .ok (.iastore, 1) := by decide +kernel
theorem dX12_init_187 : decode cX12_init 187 = .ok (.aload_n 0, 1) := by decide +kernel
theorem dX12_init_188 : decode cX12_init 188 = .ok (.getfield 17, 3) := by decide +kernel
theorem dX12_init_191 : decode cX12_init 191 = .ok (.iconst 1, 1) := by decide +kernel
theorem dX12_init_192 : decode cX12_init 192 = .ok (.bipush 100, 2) := by decide +kernel
theorem dX12_init_194 : decode cX12_init 194 = .ok (.iastore, 1) := by decide +kernel
theorem dX12_init_195 : decode cX12_init 195 = .ok (.aload_n 0, 1) := by decide +kernel
theorem dX12_init_196 : decode cX12_init 196 = .ok (.getfield 17, 3) := by decide +kernel
theorem dX12_init_199 : decode cX12_init 199 = .ok (.iconst 2, 1) := by decide +kernel
theorem dX12_init_200 : decode cX12_init 200 = .ok (.sipush 2000, 3) := by decide +kernel
theorem dX12_init_203 : decode cX12_init 203 = .ok (.iastore, 1) := by decide +kernel
theorem dX12_init_204 : decode cX12_init 204 = .ok (.aload_n 0, 1) := by decide +kernel
theorem dX12_init_205 : decode cX12_init 205 = .ok (.sipush 1000, 3) := by decide +kernel
theorem dX12_init_208 : decode cX12_init 208 = .ok (.putfield 82, 3) := by decide +kernel
theorem dX12_init_211 : decode cX12_init 211 = .ok (.iconst 0, 1) := by decide +kernel
theorem dX12_init_212 : decode cX12_init 212 = .ok (.istore_n 1, 1) := by decide +kernel
theorem dX12_init_213 : decode cX12_init 213 = .ok (.iload_n 1, 1) := by decide +kernel
theorem dX12_init_214 : decode cX12_init 214 = .ok (.iconst 5, 1) := by decide +kernel
theorem dX12_init_215 : decode cX12_init 215 = .ok (.if_icmp .ge 42, 3) := by decide +kernel
theorem dX12_init_218 : decode cX12_init 218 = .ok (.aload_n 0, 1) := by decide +kernel
theorem dX12_init_219 : decode cX12_init 219 = .ok (.getfield 65, 3) := by decide +kernel
theorem dX12_init_222 : decode cX12_init 222 = .ok (.iload_n 1, 1) := by decide +kernel
theorem dX12_init_223 : decode cX12_init 223 = .ok (.lconst 1, 1) := by decide +kernel
theorem dX12_init_224 : decode cX12_init 224 = .ok (.lastore, 1) := by decide +kernel
theorem dX12_init_225 : decode cX12_init 225 = .ok (.iconst 0, 1) := by decide +kernel
theorem dX12_init_226 : decode cX12_init 226 = .ok (.istore_n 2, 1) := by decide +kernel
theorem dX12_init_227 : decode cX12_init 227 = .ok (.iload_n 2, 1) := by decide +kernel
theorem dX12_init_228 : decode cX12_init 228 = .ok (.bipush 6, 2) := by decide +kernel
theorem dX12_init_230 : decode cX12_init 230 = .ok (.if_icmp .ge 21, 3) := by decide +kernel
theorem dX12_init_233 : decode cX12_init 233 = .ok (.aload_n 0, 1) := by decide +kernel
theorem dX12_init_234 : decode cX12_init 234 = .ok (.getfield 69, 3) := by decide +kernel
theorem dX12_init_237 : decode cX12_init 237 = .ok (.bipush 6, 2) := by decide +kernel
theorem dX12_init_239 : decode cX12_init 239 = .ok (.iload_n 1, 1) := by decide +kernel
theorem dX12_init_240 : decode cX12_init 240 = .ok (.imul, 1) := by decide +kernel
theorem dX12_init_241 : decode cX12_init 241 = .ok (.iload_n 2, 1) := by decide +kernel
theorem dX12_init_242 : decode cX12_init 242 = .ok (.iadd, 1) := by decide +kernel
theorem dX12_init_243 : decode cX12_init 243 = .ok (.iconst 5, 1) := by decide +kernel
theorem dX12_init_244 : decode cX12_init 244 = .ok (.iastore, 1) := by decide +kernel
theorem dX12_init_245 : decode cX12_init 245 = .ok (.iinc 2 1, 3) := by decide +kernel
theorem dX12_init_248 : decode cX12_init 248 = .ok (.goto (-21), 3) := by decide +kernel
theorem dX12_init_251 : decode cX12_init 251 = .ok (.iinc 1 1, 3) := by decide +kernel
theorem dX12_init_254 : decode cX12_init 254 = .ok (.goto (-41), 3) := by decide +kernel
theorem dX12_init_257 : decode cX12_init 257 = .ok (.return_, 1) := by decide +kernel
theorem dX12_in_0 : decode cX12_in 0 = .ok (.iload_n 0, 1) := by decide +kernel
theorem dX12_in_1 : decode cX12_in 1 = .ok (.iload_n 1, 1) := by decide +kernel
theorem dX12_in_2 : decode cX12_in 2 = .ok (.if_icmp .lt 12, 3) := by decide +kernel
theorem dX12_in_5 : decode cX12_in 5 = .ok (.iload_n 0, 1) := by decide +kernel
theorem dX12_in_6 : decode cX12_in 6 = .ok (.iload_n 2, 1) := by decide +kernel
theorem dX12_in_7 : decode cX12_in 7 = .ok (.if_icmp .gt 7, 3) := by decide +kernel
theorem dX12_in_10 : decode cX12_in 10 = .ok (.iconst 1, 1) := by decide +kernel
theorem dX12_in_11 : decode cX12_in 11 = .ok (.goto 4, 3) := by decide +kernel
theorem dX12_in_14 : decode cX12_in 14 = .ok (.iconst 0, 1) := by decide +kernel
theorem dX12_in_15 : decode cX12_in 15 = .ok (.ireturn, 1) := by decide +kernel
set_option maxRecDepth 20000 in
theorem ggX12_type_X12_in : GoodIn wsX12_type wsX12_in := goodIn_r _ [7] (by decide +kernel) (by decide +kernel)
set_option maxRecDepth 20000 in
theorem gX12_type_X12_in : GoodIn wsX12_type (va_wsS RX12 86 yX12_in wsX12_in) := goodIn_app (goodIn_of _ (by decide +kernel)) ggX12_type_X12_in
theorem dX12_type_0 : decode cX12_type 0 = .ok (.iload_n 3, 1) := by decide +kernel
theorem dX12_type_1 : decode cX12_type 1 = .ok (.iconst 1, 1) := by decide +kernel
theorem dX12_type_2 : decode cX12_type 2 = .ok (.bipush 8, 2) := by decide +kernel
theorem dX12_type_4 : decode cX12_type 4 = .ok (.invokestatic 86, 3) := by decide +kernel
theorem dX12_type_7 : decode cX12_type 7 = .ok (.ifCond .ne 5, 3) := by decide +kernel
theorem dX12_type_10 : decode cX12_type 10 = .ok (.iconst (-1), 1) := by decide +kernel
theorem dX12_type_11 : decode cX12_type 11 = .ok (.ireturn, 1) := by decide +kernel
theorem dX12_type_12 : decode cX12_type 12 = .ok (.aload_n 0, 1) := by decide +kernel
theorem dX12_type_13 : decode cX12_type 13 = .ok (.getfield 90, 3) := by decide +kernel
theorem dX12_type_16 : decode cX12_type 16 = .ok (.iload_n 3, 1) := by decide +kernel
theorem dX12_type_17 : decode cX12_type 17 = .ok (.iadd, 1) := by decide +kernel
theorem dX12_type_18 : decode cX12_type 18 = .ok (.sipush 400, 3) := by decide +kernel
theorem dX12_type_21 : decode cX12_type 21 = .ok (.if_icmp .le 6, 3) := by decide +kernel
theorem dX12_type_24 : decode cX12_type 24 = .ok (.bipush (-3), 2) := by decide +kernel
theorem dX12_type_26 : decode cX12_type 26 = .ok (.ireturn, 1) := by decide +kernel
theorem dX12_type_27 : decode cX12_type 27 = .ok (.iload_n 3, 1) := by decide +kernel
theorem dX12_type_28 : decode cX12_type 28 = .ok (.iconst 1, 1) := by decide +kernel
theorem dX12_type_29 : decode cX12_type 29 = .ok (.isub, 1) := by decide +kernel
theorem dX12_type_30 : decode cX12_type 30 = .ok (.istore 4, 2) := by decide +kernel
theorem dX12_type_32 : decode cX12_type 32 = .ok (.iload 4, 2) := by decide +kernel
theorem dX12_type_34 : decode cX12_type 34 = .ok (.ifCond .lt 41, 3) := by decide +kernel
theorem dX12_type_37 : decode cX12_type 37 = .ok (.aload_n 0, 1) := by decide +kernel
theorem dX12_type_38 : decode cX12_type 38 = .ok (.getfield 7, 3) := by decide +kernel
theorem dX12_type_41 : decode cX12_type 41 = .ok (.aload_n 0, 1) := by decide +kernel
theorem dX12_type_42 : decode cX12_type 42 = .ok (.getfield 90, 3) := by decide +kernel
theorem dX12_type_45 : decode cX12_type 45 = .ok (.lload_n 1, 1) := by decide +kernel
theorem dX12_type_46 : decode cX12_type 46 = .ok (.bipush 8, 2) := by decide +kernel
theorem dX12_type_48 : decode cX12_type 48 = .ok (.iload 4, 2) := by decide +kernel
theorem dX12_type_50 : decode cX12_type 50 = .ok (.imul, 1) := by decide +kernel
theorem dX12_type_51 : decode cX12_type 51 = .ok (.lshr, 1) := by decide +kernel
theorem dX12_type_52 : decode cX12_type 52 = .ok (.ldc2_w 93, 3) := by decide +kernel
theorem dX12_type_55 : decode cX12_type 55 = .ok (.land, 1) := by decide +kernel
theorem dX12_type_56 : decode cX12_type 56 = .ok (.l2i, 1) := by decide +kernel
theorem dX12_type_57 : decode cX12_type 57 = .ok (.i2b, 1) := by decide +kernel
theorem dX12_type_58 : decode cX12_type 58 = .ok (.bastore, 1) := by decide +kernel
theorem dX12_type_59 : decode cX12_type 59 = .ok (.aload_n 0, 1) := by decide +kernel
theorem dX12_type_60 : decode cX12_type 60 = .ok (.dup, 1) := by decide +kernel
theorem dX12_type_61 : decode cX12_type 61 = .ok (.getfield 90, 3) := by decide +kernel
theorem dX12_type_64 : decode cX12_type 64 = .ok (.iconst 1, 1) := by decide +kernel
theorem dX12_type_65 : decode cX12_type 65 = .ok (.iadd, 1) := by decide +kernel
theorem dX12_type_66 : decode cX12_type 66 = .ok (.putfield 90, 3) := by decide +kernel
theorem dX12_type_69 : decode cX12_type 69 = .ok (.iinc 4 (-1), 3) := by decide +kernel
theorem dX12_type_72 : decode cX12_type 72 = .ok (.goto (-40), 3) := by decide +kernel
theorem dX12_type_75 : decode cX12_type 75 = .ok (.aload_n 0, 1) := by decide +kernel
theorem dX12_type_76 : decode cX12_type 76 = .ok (.getfield 90, 3) := by decide +kernel
theorem dX12_type_79 : decode cX12_type 79 = .ok (.ireturn, 1) := by decide +kernel
theorem dX12_clear_0 : decode cX12_clear 0 = .ok (.aload_n 0, 1) := by decide +kernel
theorem dX12_clear_1 : decode cX12_clear 1 = .ok (.getfield 90, 3) := by decide +kernel
theorem dX12_clear_4 : decode cX12_clear 4 = .ok (.istore_n 1, 1) := by decide +kernel
theorem dX12_clear_5 : decode cX12_clear 5 = .ok (.aload_n 0, 1) := by decide +kernel
theorem dX12_clear_6 : decode cX12_clear 6 = .ok (.iconst 0, 1) := by decide +kernel
theorem dX12_clear_7 : decode cX12_clear 7 = .ok (.putfield 90, 3) := by decide +kernel
theorem dX12_clear_10 : decode cX12_clear 10 = .ok (.iload_n 1, 1) := by decide +kernel
theorem dX12_clear_11 : decode cX12_clear 11 = .ok (.ireturn, 1) := by decide +kernel
set_option maxRecDepth 20000 in
theorem ggX12_ocean_X12_in : GoodIn wsX12_ocean wsX12_in := goodIn_r _ [7] (by decide +kernel) (by decide +kernel)
set_option maxRecDepth 20000 in
theorem gX12_ocean_X12_in : GoodIn wsX12_ocean (va_wsS RX12 86 yX12_in wsX12_in) := goodIn_app (goodIn_of _ (by decide +kernel)) ggX12_ocean_X12_in
set_option maxRecDepth 20000 in
theorem ggX12_ocean_X12_sea : GoodIn wsX12_ocean wsX12_sea := goodIn_r _ [11, 3, 12, 13, 14, 15, 16, 17, 18, 19, 20, 21, 22, 23, 24, 25, 26, 27, 28, 29, 30, 31, 32, 33, 34, 35, 36, 37, 38, 39, 40] (by decide +kernel) (by decide +kernel)
set_option maxRecDepth 20000 in
theorem gX12_ocean_X12_sea : GoodIn wsX12_ocean (wsV RX12 95 RX12 yX12_sea wsX12_sea) := goodIn_app (goodIn_of _ (by decide +kernel)) ggX12_ocean_X12_sea
theorem dX12_ocean_0 : decode cX12_ocean 0 = .ok (.iconst 0, 1) := by decide +kernel
theorem dX12_ocean_1 : decode cX12_ocean 1 = .ok (.istore_n 1, 1) := by decide +kernel
theorem dX12_ocean_2 : decode cX12_ocean 2 = .ok (.bipush (-9), 2) := by decide +kernel
theorem dX12_ocean_4 : decode cX12_ocean 4 = .ok (.istore_n 2, 1) := by decide +kernel
theorem dX12_ocean_5 : decode cX12_ocean 5 = .ok (.iconst 0, 1) := by decide +kernel
theorem dX12_ocean_6 : decode cX12_ocean 6 = .ok (.istore_n 3, 1) := by decide +kernel
theorem dX12_ocean_7 : decode cX12_ocean 7 = .ok (.iload_n 3, 1) := by decide +kernel
theorem dX12_ocean_8 : decode cX12_ocean 8 = .ok (.aload_n 0, 1) := by decide +kernel
theorem dX12_ocean_9 : decode cX12_ocean 9 = .ok (.getfield 90, 3) := by decide +kernel
theorem dX12_ocean_12 : decode cX12_ocean 12 = .ok (.if_icmp .ge 140, 3) := by decide +kernel
theorem dX12_ocean_15 : decode cX12_ocean 15 = .ok (.iload_n 2, 1) := by decide +kernel
theorem dX12_ocean_16 : decode cX12_ocean 16 = .ok (.bipush (-9), 2) := by decide +kernel
theorem dX12_ocean_18 : decode cX12_ocean 18 = .ok (.if_icmp .ne 134, 3) := by decide +kernel
theorem dX12_ocean_21 : decode cX12_ocean 21 = .ok (.aload_n 0, 1) := by decide +kernel
theorem dX12_ocean_22 : decode cX12_ocean 22 = .ok (.getfield 7, 3) := by decide +kernel
theorem dX12_ocean_25 : decode cX12_ocean 25 = .ok (.iload_n 3, 1) := by decide +kernel
theorem dX12_ocean_26 : decode cX12_ocean 26 = .ok (.baload, 1) := by decide +kernel
theorem dX12_ocean_27 : decode cX12_ocean 27 = .ok (.sipush 255, 3) := by decide +kernel
theorem dX12_ocean_30 : decode cX12_ocean 30 = .ok (.iand, 1) := by decide +kernel
theorem dX12_ocean_31 : decode cX12_ocean 31 = .ok (.istore 4, 2) := by decide +kernel
theorem dX12_ocean_33 : decode cX12_ocean 33 = .ok (.iload 4, 2) := by decide +kernel
theorem dX12_ocean_35 : decode cX12_ocean 35 = .ok (.bipush 32, 2) := by decide +kernel
theorem dX12_ocean_37 : decode cX12_ocean 37 = .ok (.if_icmp .eq 109, 3) := by decide +kernel
theorem dX12_ocean_40 : decode cX12_ocean 40 = .ok (.iload_n 1, 1) := by decide +kernel
theorem dX12_ocean_41 : decode cX12_ocean 41 = .ok (.bipush 9, 2) := by decide +kernel
theorem dX12_ocean_43 : decode cX12_ocean 43 = .ok (.irem, 1) := by decide +kernel
theorem dX12_ocean_44 : decode cX12_ocean 44 = .ok (.bipush 8, 2) := by decide +kernel
theorem dX12_ocean_46 : decode cX12_ocean 46 = .ok (.if_icmp .ne 7, 3) := by decide +kernel
theorem dX12_ocean_49 : decode cX12_ocean 49 = .ok (.iconst 1, 1) := by decide +kernel
theorem dX12_ocean_50 : decode cX12_ocean 50 = .ok (.goto 4, 3) := by decide +kernel
theorem dX12_ocean_53 : decode cX12_ocean 53 = .ok (.iconst 0, 1) := by decide +kernel
theorem dX12_ocean_54 : decode cX12_ocean 54 = .ok (.istore 5, 2) := by decide +kernel
theorem dX12_ocean_56 : decode cX12_ocean 56 = .ok (.iload_n 1, 1) := by decide +kernel
theorem dX12_ocean_57 : decode cX12_ocean 57 = .ok (.bipush 54, 2) := by decide +kernel
theorem dX12_ocean_59 : decode cX12_ocean 59 = .ok (.if_icmp .ge 34, 3) := by decide +kernel
theorem dX12_ocean_62 : decode cX12_ocean 62 = .ok (.iload 5, 2) := by decide +kernel
theorem dX12_ocean_64 : decode cX12_ocean 64 = .ok (.ifCond .eq 13, 3) := by decide +kernel
theorem dX12_ocean_67 : decode cX12_ocean 67 = .ok (.iload 4, 2) := by decide +kernel
theorem dX12_ocean_69 : decode cX12_ocean 69 = .ok (.bipush 59, 2) := by decide +kernel
theorem dX12_ocean_71 : decode cX12_ocean 71 = .ok (.if_icmp .ne 22, 3) := by decide +kernel
theorem dX12_ocean_74 : decode cX12_ocean 74 = .ok (.goto 15, 3) := by decide +kernel
theorem dX12_ocean_77 : decode cX12_ocean 77 = .ok (.iload 4, 2) := by decide +kernel
theorem dX12_ocean_79 : decode cX12_ocean 79 = .ok (.bipush 48, 2) := by decide +kernel
theorem dX12_ocean_81 : decode cX12_ocean 81 = .ok (.bipush 57, 2) := by decide +kernel
theorem dX12_ocean_83 : decode cX12_ocean 83 = .ok (.invokestatic 86, 3) := by decide +kernel
theorem dX12_ocean_86 : decode cX12_ocean 86 = .ok (.ifCond .eq 7, 3) := by decide +kernel
theorem dX12_ocean_89 : decode cX12_ocean 89 = .ok (.iconst 1, 1) := by decide +kernel
theorem dX12_ocean_90 : decode cX12_ocean 90 = .ok (.goto 4, 3) := by decide +kernel
theorem dX12_ocean_93 : decode cX12_ocean 93 = .ok (.iconst 0, 1) := by decide +kernel
theorem dX12_ocean_94 : decode cX12_ocean 94 = .ok (.istore 6, 2) := by decide +kernel
theorem dX12_ocean_96 : decode cX12_ocean 96 = .ok (.iload 6, 2) := by decide +kernel
theorem dX12_ocean_98 : decode cX12_ocean 98 = .ok (.ifCond .eq 8, 3) := by decide +kernel
theorem dX12_ocean_101 : decode cX12_ocean 101 = .ok (.bipush (-9), 2) := by decide +kernel
theorem dX12_ocean_103 : decode cX12_ocean 103 = .ok (.goto 4, 3) := by decide +kernel
theorem dX12_ocean_106 : decode cX12_ocean 106 = .ok (.iload_n 3, 1) := by decide +kernel
theorem dX12_ocean_107 : decode cX12_ocean 107 = .ok (.istore_n 2, 1) := by decide +kernel
theorem dX12_ocean_108 : decode cX12_ocean 108 = .ok (.iload 6, 2) := by decide +kernel
theorem dX12_ocean_110 : decode cX12_ocean 110 = .ok (.ifCond .eq 33, 3) := by decide +kernel
theorem dX12_ocean_113 : decode cX12_ocean 113 = .ok (.iload 5, 2) := by decide +kernel
theorem dX12_ocean_115 : decode cX12_ocean 115 = .ok (.ifCond .ne 28, 3) := by decide +kernel
theorem dX12_ocean_118 : decode cX12_ocean 118 = .ok (.aload_n 0, 1) := by decide +kernel
theorem dX12_ocean_119 : decode cX12_ocean 119 = .ok (.getfield 13, 3) := by decide +kernel
theorem dX12_ocean_122 : decode cX12_ocean 122 = .ok (.bipush 48, 2) := by decide +kernel
theorem dX12_ocean_124 : decode cX12_ocean 124 = .ok (.bipush 8, 2) := by decide +kernel
theorem dX12_ocean_126 : decode cX12_ocean 126 = .ok (.iload_n 1, 1) := by decide +kernel
theorem dX12_ocean_127 : decode cX12_ocean 127 = .ok (.bipush 9, 2) := by decide +kernel
theorem dX12_ocean_129 : decode cX12_ocean 129 = .ok (.idiv, 1) := by decide +kernel
theorem dX12_ocean_130 : decode cX12_ocean 130 = .ok (.imul, 1) := by decide +kernel
theorem dX12_ocean_131 : decode cX12_ocean 131 = .ok (.iadd, 1) := by decide +kernel
theorem dX12_ocean_132 : decode cX12_ocean 132 = .ok (.iload_n 1, 1) := by decide +kernel
theorem dX12_ocean_133 : decode cX12_ocean 133 = .ok (.bipush 9, 2) := by decide +kernel
theorem dX12_ocean_135 : decode cX12_ocean 135 = .ok (.irem, 1) := by decide +kernel
theorem dX12_ocean_136 : decode cX12_ocean 136 = .ok (.iadd, 1) := by decide +kernel
theorem dX12_ocean_137 : decode cX12_ocean 137 = .ok (.iload 4, 2) := by decide +kernel
theorem dX12_ocean_139 : decode cX12_ocean 139 = .ok (.bipush 48, 2) := by decide +kernel
theorem dX12_ocean_141 : decode cX12_ocean 141 = .ok (.isub, 1) := by decide +kernel
theorem dX12_ocean_142 : decode cX12_ocean 142 = .ok (.iastore, 1) := by decide +kernel
theorem dX12_ocean_143 : decode cX12_ocean 143 = .ok (.iinc 1 1, 3) := by decide +kernel
theorem dX12_ocean_146 : decode cX12_ocean 146 = .ok (.iinc 3 1, 3) := by decide +kernel
theorem dX12_ocean_149 : decode cX12_ocean 149 = .ok (.goto (-142), 3) := by decide +kernel
theorem dX12_ocean_152 : decode cX12_ocean 152 = .ok (.iload_n 2, 1) := by decide +kernel
theorem dX12_ocean_153 : decode cX12_ocean 153 = .ok (.bipush (-9), 2) := by decide +kernel
theorem dX12_ocean_155 : decode cX12_ocean 155 = .ok (.if_icmp .ne 16, 3) := by decide +kernel
theorem dX12_ocean_158 : decode cX12_ocean 158 = .ok (.iload_n 1, 1) := by decide +kernel
theorem dX12_ocean_159 : decode cX12_ocean 159 = .ok (.bipush 54, 2) := by decide +kernel
theorem dX12_ocean_161 : decode cX12_ocean 161 = .ok (.if_icmp .ge 10, 3) := by decide +kernel
theorem dX12_ocean_164 : decode cX12_ocean 164 = .ok (.aload_n 0, 1) := by decide +kernel
theorem dX12_ocean_165 : decode cX12_ocean 165 = .ok (.getfield 90, 3) := by decide +kernel
theorem dX12_ocean_168 : decode cX12_ocean 168 = .ok (.goto 4, 3) := by decide +kernel
theorem dX12_ocean_171 : decode cX12_ocean 171 = .ok (.iload_n 2, 1) := by decide +kernel
theorem dX12_ocean_172 : decode cX12_ocean 172 = .ok (.istore_n 2, 1) := by decide +kernel
theorem dX12_ocean_173 : decode cX12_ocean 173 = .ok (.iload_n 2, 1) := by decide +kernel
theorem dX12_ocean_174 : decode cX12_ocean 174 = .ok (.bipush (-9), 2) := by decide +kernel
theorem dX12_ocean_176 : decode cX12_ocean 176 = .ok (.if_icmp .eq 8, 3) := by decide +kernel
theorem dX12_ocean_179 : decode cX12_ocean 179 = .ok (.bipush (-10), 2) := by decide +kernel
theorem dX12_ocean_181 : decode cX12_ocean 181 = .ok (.iload_n 2, 1) := by decide +kernel
theorem dX12_ocean_182 : decode cX12_ocean 182 = .ok (.isub, 1) := by decide +kernel
theorem dX12_ocean_183 : decode cX12_ocean 183 = .ok (.ireturn, 1) := by decide +kernel
theorem dX12_ocean_184 : decode cX12_ocean 184 = .ok (.iconst 0, 1) := by decide +kernel
theorem dX12_ocean_185 : decode cX12_ocean 185 = .ok (.istore_n 3, 1) := by decide +kernel
theorem dX12_ocean_186 : decode cX12_ocean 186 = .ok (.iload_n 3, 1) := by decide +kernel
theorem dX12_ocean_187 : decode cX12_ocean 187 = .ok (.bipush 48, 2) := by decide +kernel
theorem dX12_ocean_189 : decode cX12_ocean 189 = .ok (.if_icmp .ge 24, 3) := by decide +kernel
theorem dX12_ocean_192 : decode cX12_ocean 192 = .ok (.aload_n 0, 1) := by decide +kernel
theorem dX12_ocean_193 : decode cX12_ocean 193 = .ok (.getfield 13, 3) := by decide +kernel
theorem dX12_ocean_196 : decode cX12_ocean 196 = .ok (.iload_n 3, 1) := by decide +kernel
theorem dX12_ocean_197 : decode cX12_ocean 197 = .ok (.aload_n 0, 1) := by decide +kernel
theorem dX12_ocean_198 : decode cX12_ocean 198 = .ok (.getfield 13, 3) := by decide +kernel
theorem dX12_ocean_201 : decode cX12_ocean 201 = .ok (.bipush 48, 2) := by decide +kernel
theorem dX12_ocean_203 : decode cX12_ocean 203 = .ok (.iload_n 3, 1) := by decide +kernel
theorem dX12_ocean_204 : decode cX12_ocean 204 = .ok (.iadd, 1) := by decide +kernel
theorem dX12_ocean_205 : decode cX12_ocean 205 = .ok (.iaload, 1) := by decide +kernel
theorem dX12_ocean_206 : decode cX12_ocean 206 = .ok (.iastore, 1) := by decide +kernel
theorem dX12_ocean_207 : decode cX12_ocean 207 = .ok (.iinc 3 1, 3) := by decide +kernel
theorem dX12_ocean_210 : decode cX12_ocean 210 = .ok (.goto (-24), 3) := by decide +kernel
theorem dX12_ocean_213 : decode cX12_ocean 213 = .ok (.aload_n 0, 1) := by decide +kernel
theorem dX12_ocean_214 : decode cX12_ocean 214 = .ok (.iconst 0, 1) := by decide +kernel
theorem dX12_ocean_215 : decode cX12_ocean 215 = .ok (.putfield 90, 3) := by decide +kernel
theorem dX12_ocean_218 : decode cX12_ocean 218 = .ok (.aload_n 0, 1) := by decide +kernel
theorem dX12_ocean_219 : decode cX12_ocean 219 = .ok (.invokevirtual 95, 3) := by decide +kernel
theorem dX12_ocean_222 : decode cX12_ocean 222 = .ok (.ireturn, 1) := by decide +kernel
theorem dX12_sea_0 : decode cX12_sea 0 = .ok (.iconst 0, 1) := by decide +kernel
theorem dX12_sea_1 : decode cX12_sea 1 = .ok (.istore_n 1, 1) := by decide +kernel
theorem dX12_sea_2 : decode cX12_sea 2 = .ok (.iconst 0, 1) := by decide +kernel
theorem dX12_sea_3 : decode cX12_sea 3 = .ok (.istore_n 2, 1) := by decide +kernel
theorem dX12_sea_4 : decode cX12_sea 4 = .ok (.iload_n 2, 1) := by decide +kernel
theorem dX12_sea_5 : decode cX12_sea 5 = .ok (.bipush 48, 2) := by decide +kernel
theorem dX12_sea_7 : decode cX12_sea 7 = .ok (.if_icmp .ge 26, 3) := by decide +kernel
theorem dX12_sea_10 : decode cX12_sea 10 = .ok (.iload_n 1, 1) := by decide +kernel
theorem dX12_sea_11 : decode cX12_sea 11 = .ok (.aload_n 0, 1) := by decide +kernel
theorem dX12_sea_12 : decode cX12_sea 12 = .ok (.getfield 13, 3) := by decide +kernel
theorem dX12_sea_15 : decode cX12_sea 15 = .ok (.iload_n 2, 1) := by decide +kernel
theorem dX12_sea_16 : decode cX12_sea 16 = .ok (.iaload, 1) := by decide +kernel
theorem dX12_sea_17 : decode cX12_sea 17 = .ok (.ifCond .le 7, 3) := by decide +kernel
theorem dX12_sea_20 : decode cX12_sea 20 = .ok (.iconst 1, 1) := by decide +kernel
theorem dX12_sea_21 : decode cX12_sea 21 = .ok (.goto 4, 3) := by decide +kernel
theorem dX12_sea_24 : decode cX12_sea 24 = .ok (.iconst 0, 1) := by decide +kernel
theorem dX12_sea_25 : decode cX12_sea 25 = .ok (.iadd, 1) := by decide +kernel
theorem dX12_sea_26 : decode cX12_sea 26 = .ok (.istore_n 1, 1) := by decide +kernel
theorem dX12_sea_27 : decode cX12_sea 27 = .ok (.iinc 2 1, 3) := by decide +kernel
theorem dX12_sea_30 : decode cX12_sea 30 = .ok (.goto (-26), 3) := by decide +kernel
theorem dX12_sea_33 : decode cX12_sea 33 = .ok (.iload_n 1, 1) := by decide +kernel
theorem dX12_sea_34 : decode cX12_sea 34 = .ok (.ireturn, 1) := by decide +kernel
set_option maxRecDepth 20000 in
theorem ggX12_isCell_X12_in : GoodIn wsX12_isCell wsX12_in := goodIn_r _ [4] (by decide +kernel) (by decide +kernel)
set_option maxRecDepth 20000 in
theorem gX12_isCell_X12_in : GoodIn wsX12_isCell (va_wsS RX12 86 yX12_in wsX12_in) := goodIn_app (goodIn_of _ (by decide +kernel)) ggX12_isCell_X12_in
theorem dX12_isCell_0 : decode cX12_isCell 0 = .ok (.iload_n 0, 1) := by decide +kernel
theorem dX12_isCell_1 : decode cX12_isCell 1 = .ok (.iconst 0, 1) := by decide +kernel
theorem dX12_isCell_2 : decode cX12_isCell 2 = .ok (.bipush 47, 2) := by decide +kernel
theorem dX12_isCell_4 : decode cX12_isCell 4 = .ok (.invokestatic 86, 3) := by decide +kernel
theorem dX12_isCell_7 : decode cX12_isCell 7 = .ok (.ireturn, 1) := by decide +kernel
set_option maxRecDepth 20000 in
theorem ggX12_isSea_X12_isCell : GoodIn wsX12_isSea wsX12_isCell := goodIn_r _ [5, 6, 7, 4, 8] (by decide +kernel) (by decide +kernel)
set_option maxRecDepth 20000 in
theorem gX12_isSea_X12_isCell : GoodIn wsX12_isSea (va_wsS RX12 99 yX12_isCell wsX12_isCell) := goodIn_app (goodIn_of _ (by decide +kernel)) ggX12_isSea_X12_isCell
theorem dX12_isSea_0 : decode cX12_isSea 0 = .ok (.iload_n 1, 1) := by decide +kernel
theorem dX12_isSea_1 : decode cX12_isSea 1 = .ok (.invokestatic 99, 3) := by decide +kernel
theorem dX12_isSea_4 : decode cX12_isSea 4 = .ok (.ifCond .eq 16, 3) := by decide +kernel
theorem dX12_isSea_7 : decode cX12_isSea 7 = .ok (.aload_n 0, 1) := by decide +kernel
theorem dX12_isSea_8 : decode cX12_isSea 8 = .ok (.getfield 13, 3) := by decide +kernel
theorem dX12_isSea_11 : decode cX12_isSea 11 = .ok (.iload_n 1, 1) := by decide +kernel
theorem dX12_isSea_12 : decode cX12_isSea 12 = .ok (.iaload, 1) := by decide +kernel
theorem dX12_isSea_13 : decode cX12_isSea 13 = .ok (.ifCond .le 7, 3) := by decide +kernel
theorem dX12_isSea_16 : decode cX12_isSea 16 = .ok (.iconst 1, 1) := by decide +kernel
theorem dX12_isSea_17 : decode cX12_isSea 17 = .ok (.goto 4, 3) := by decide +kernel
theorem dX12_isSea_20 : decode cX12_isSea 20 = .ok (.iconst 0, 1) := by decide +kernel
theorem dX12_isSea_21 : decode cX12_isSea 21 = .ok (.ireturn, 1) := by decide +kernel
set_option maxRecDepth 20000 in
theorem ggX12_depth_X12_isCell : GoodIn wsX12_depth wsX12_isCell := goodIn_r _ [5, 6, 7, 4, 8] (by decide +kernel) (by decide +kernel)
set_option maxRecDepth 20000 in
theorem gX12_depth_X12_isCell : GoodIn wsX12_depth (va_wsS RX12 99 yX12_isCell wsX12_isCell) := goodIn_app (goodIn_of _ (by decide +kernel)) ggX12_depth_X12_isCell
theorem dX12_depth_0 : decode cX12_depth 0 = .ok (.iload_n 1, 1) := by decide +kernel
theorem dX12_depth_1 : decode cX12_depth 1 = .ok (.invokestatic 99, 3) := by decide +kernel
theorem dX12_depth_4 : decode cX12_depth 4 = .ok (.ifCond .eq 12, 3) := by decide +kernel
theorem dX12_depth_7 : decode cX12_depth 7 = .ok (.aload_n 0, 1) := by decide +kernel
theorem dX12_depth_8 : decode cX12_depth 8 = .ok (.getfield 13, 3) := by decide +kernel
theorem dX12_depth_11 : decode cX12_depth 11 = .ok (.iload_n 1, 1) := by decide +kernel
theorem dX12_depth_12 : decode cX12_depth 12 = .ok (.iaload, 1) := by decide +kernel
theorem dX12_depth_13 : decode cX12_depth 13 = .ok (.goto 4, 3) := by decide +kernel
theorem dX12_depth_16 : decode cX12_depth 16 = .ok (.iconst (-1), 1) := by decide +kernel
theorem dX12_depth_17 : decode cX12_depth 17 = .ok (.ireturn, 1) := by decide +kernel
set_option maxRecDepth 20000 in
theorem ggX12_tune_X12_in : GoodIn wsX12_tune wsX12_in := goodIn_r _ [5] (by decide +kernel) (by decide +kernel)
set_option maxRecDepth 20000 in
theorem gX12_tune_X12_in : GoodIn wsX12_tune (va_wsS RX12 86 yX12_in wsX12_in) := goodIn_app (goodIn_of _ (by decide +kernel)) ggX12_tune_X12_in
theorem dX12_tune_0 : decode cX12_tune 0 = .ok (.iload_n 1, 1) := by decide +kernel
theorem dX12_tune_1 : decode cX12_tune 1 = .ok (.iconst 0, 1) := by decide +kernel
theorem dX12_tune_2 : decode cX12_tune 2 = .ok (.iconst 2, 1) := by decide +kernel
theorem dX12_tune_3 : decode cX12_tune 3 = .ok (.invokestatic 86, 3) := by decide +kernel
theorem dX12_tune_6 : decode cX12_tune 6 = .ok (.ifCond .eq 43, 3) := by decide +kernel
theorem dX12_tune_9 : decode cX12_tune 9 = .ok (.iload_n 2, 1) := by decide +kernel
theorem dX12_tune_10 : decode cX12_tune 10 = .ok (.iload_n 1, 1) := by decide +kernel
theorem dX12_tune_11 : decode cX12_tune 11 = .ok (.iconst 2, 1) := by decide +kernel
theorem dX12_tune_12 : decode cX12_tune 12 = .ok (.if_icmp .ge 7, 3) := by decide +kernel
theorem dX12_tune_15 : decode cX12_tune 15 = .ok (.iconst 1, 1) := by decide +kernel
theorem dX12_tune_16 : decode cX12_tune 16 = .ok (.goto 4, 3) := by decide +kernel
theorem dX12_tune_19 : decode cX12_tune 19 = .ok (.iconst 0, 1) := by decide +kernel
theorem dX12_tune_20 : decode cX12_tune 20 = .ok (.iload_n 1, 1) := by decide +kernel
theorem dX12_tune_21 : decode cX12_tune 21 = .ok (.ifCond .ne 8, 3) := by decide +kernel
theorem dX12_tune_24 : decode cX12_tune 24 = .ok (.bipush 9, 2) := by decide +kernel
theorem dX12_tune_26 : decode cX12_tune 26 = .ok (.goto 17, 3) := by decide +kernel
theorem dX12_tune_29 : decode cX12_tune 29 = .ok (.iload_n 1, 1) := by decide +kernel
theorem dX12_tune_30 : decode cX12_tune 30 = .ok (.iconst 1, 1) := by decide +kernel
theorem dX12_tune_31 : decode cX12_tune 31 = .ok (.if_icmp .ne 9, 3) := by decide +kernel
theorem dX12_tune_34 : decode cX12_tune 34 = .ok (.sipush 999, 3) := by decide +kernel
theorem dX12_tune_37 : decode cX12_tune 37 = .ok (.goto 6, 3) := by decide +kernel
theorem dX12_tune_40 : decode cX12_tune 40 = .ok (.sipush 9999, 3) := by decide +kernel
theorem dX12_tune_43 : decode cX12_tune 43 = .ok (.invokestatic 86, 3) := by decide +kernel
theorem dX12_tune_46 : decode cX12_tune 46 = .ok (.ifCond .ne 5, 3) := by decide +kernel
theorem dX12_tune_49 : decode cX12_tune 49 = .ok (.iconst (-1), 1) := by decide +kernel
theorem dX12_tune_50 : decode cX12_tune 50 = .ok (.ireturn, 1) := by decide +kernel
theorem dX12_tune_51 : decode cX12_tune 51 = .ok (.aload_n 0, 1) := by decide +kernel
theorem dX12_tune_52 : decode cX12_tune 52 = .ok (.getfield 17, 3) := by decide +kernel
theorem dX12_tune_55 : decode cX12_tune 55 = .ok (.iload_n 1, 1) := by decide +kernel
theorem dX12_tune_56 : decode cX12_tune 56 = .ok (.iaload, 1) := by decide +kernel
theorem dX12_tune_57 : decode cX12_tune 57 = .ok (.istore_n 3, 1) := by decide +kernel
theorem dX12_tune_58 : decode cX12_tune 58 = .ok (.aload_n 0, 1) := by decide +kernel
theorem dX12_tune_59 : decode cX12_tune 59 = .ok (.getfield 17, 3) := by decide +kernel
theorem dX12_tune_62 : decode cX12_tune 62 = .ok (.iload_n 1, 1) := by decide +kernel
theorem dX12_tune_63 : decode cX12_tune 63 = .ok (.iload_n 2, 1) := by decide +kernel
theorem dX12_tune_64 : decode cX12_tune 64 = .ok (.iastore, 1) := by decide +kernel
theorem dX12_tune_65 : decode cX12_tune 65 = .ok (.iload_n 3, 1) := by decide +kernel
theorem dX12_tune_66 : decode cX12_tune 66 = .ok (.ireturn, 1) := by decide +kernel
theorem dX12_into_0 : decode cX12_into 0 = .ok (.aload_n 0, 1) := by decide +kernel
theorem dX12_into_1 : decode cX12_into 1 = .ok (.getfield 20, 3) := by decide +kernel
theorem dX12_into_4 : decode cX12_into 4 = .ok (.iload_n 1, 1) := by decide +kernel
theorem dX12_into_5 : decode cX12_into 5 = .ok (.iaload, 1) := by decide +kernel
theorem dX12_into_6 : decode cX12_into 6 = .ok (.istore_n 2, 1) := by decide +kernel
theorem dX12_into_7 : decode cX12_into 7 = .ok (.aload_n 0, 1) := by decide +kernel
theorem dX12_into_8 : decode cX12_into 8 = .ok (.getfield 17, 3) := by decide +kernel
theorem dX12_into_11 : decode cX12_into 11 = .ok (.iconst 0, 1) := by decide +kernel
theorem dX12_into_12 : decode cX12_into 12 = .ok (.iaload, 1) := by decide +kernel
theorem dX12_into_13 : decode cX12_into 13 = .ok (.bipush 10, 2) := by decide +kernel
theorem dX12_into_15 : decode cX12_into 15 = .ok (.aload_n 0, 1) := by decide +kernel
theorem dX12_into_16 : decode cX12_into 16 = .ok (.getfield 13, 3) := by decide +kernel
theorem dX12_into_19 : decode cX12_into 19 = .ok (.iload_n 1, 1) := by decide +kernel
theorem dX12_into_20 : decode cX12_into 20 = .ok (.iaload, 1) := by decide +kernel
theorem dX12_into_21 : decode cX12_into 21 = .ok (.isub, 1) := by decide +kernel
theorem dX12_into_22 : decode cX12_into 22 = .ok (.imul, 1) := by decide +kernel
theorem dX12_into_23 : decode cX12_into 23 = .ok (.istore_n 3, 1) := by decide +kernel
theorem dX12_into_24 : decode cX12_into 24 = .ok (.iload_n 1, 1) := by decide +kernel
theorem dX12_into_25 : decode cX12_into 25 = .ok (.bipush 8, 2) := by decide +kernel
theorem dX12_into_27 : decode cX12_into 27 = .ok (.if_icmp .lt 32, 3) := by decide +kernel
theorem dX12_into_30 : decode cX12_into 30 = .ok (.aload_n 0, 1) := by decide +kernel
theorem dX12_into_31 : decode cX12_into 31 = .ok (.getfield 20, 3) := by decide +kernel
theorem dX12_into_34 : decode cX12_into 34 = .ok (.iload_n 1, 1) := by decide +kernel
theorem dX12_into_35 : decode cX12_into 35 = .ok (.bipush 8, 2) := by decide +kernel
theorem dX12_into_37 : decode cX12_into 37 = .ok (.isub, 1) := by decide +kernel
theorem dX12_into_38 : decode cX12_into 38 = .ok (.iaload, 1) := by decide +kernel
theorem dX12_into_39 : decode cX12_into 39 = .ok (.iload_n 3, 1) := by decide +kernel
theorem dX12_into_40 : decode cX12_into 40 = .ok (.iadd, 1) := by decide +kernel
theorem dX12_into_41 : decode cX12_into 41 = .ok (.iload_n 2, 1) := by decide +kernel
theorem dX12_into_42 : decode cX12_into 42 = .ok (.if_icmp .ge 17, 3) := by decide +kernel
theorem dX12_into_45 : decode cX12_into 45 = .ok (.aload_n 0, 1) := by decide +kernel
theorem dX12_into_46 : decode cX12_into 46 = .ok (.getfield 20, 3) := by decide +kernel
theorem dX12_into_49 : decode cX12_into 49 = .ok (.iload_n 1, 1) := by decide +kernel
theorem dX12_into_50 : decode cX12_into 50 = .ok (.bipush 8, 2) := by decide +kernel
theorem dX12_into_52 : decode cX12_into 52 = .ok (.isub, 1) := by decide +kernel
theorem dX12_into_53 : decode cX12_into 53 = .ok (.iaload, 1) := by decide +kernel
theorem dX12_into_54 : decode cX12_into 54 = .ok (.iload_n 3, 1) := by decide +kernel
theorem dX12_into_55 : decode cX12_into 55 = .ok (.iadd, 1) := by decide +kernel
theorem dX12_into_56 : decode cX12_into 56 = .ok (.goto 4, 3) := by decide +kernel
theorem dX12_into_59 : decode cX12_into 59 = .ok (.iload_n 2, 1) := by decide +kernel
theorem dX12_into_60 : decode cX12_into 60 = .ok (.istore_n 2, 1) := by decide +kernel
theorem dX12_into_61 : decode cX12_into 61 = .ok (.iload_n 1, 1) := by decide +kernel
theorem dX12_into_62 : decode cX12_into 62 = .ok (.bipush 40, 2) := by decide +kernel
theorem dX12_into_64 : decode cX12_into 64 = .ok (.if_icmp .ge 32, 3) := by decide +kernel
theorem dX12_into_67 : decode cX12_into 67 = .ok (.aload_n 0, 1) := by decide +kernel
theorem dX12_into_68 : decode cX12_into 68 = .ok (.getfield 20, 3) := by decide +kernel
theorem dX12_into_71 : decode cX12_into 71 = .ok (.iload_n 1, 1) := by decide +kernel
theorem dX12_into_72 : decode cX12_into 72 = .ok (.bipush 8, 2) := by decide +kernel
theorem dX12_into_74 : decode cX12_into 74 = .ok (.iadd, 1) := by decide +kernel
theorem dX12_into_75 : decode cX12_into 75 = .ok (.iaload, 1) := by decide +kernel
theorem dX12_into_76 : decode cX12_into 76 = .ok (.iload_n 3, 1) := by decide +kernel
theorem dX12_into_77 : decode cX12_into 77 = .ok (.iadd, 1) := by decide +kernel
theorem dX12_into_78 : decode cX12_into 78 = .ok (.iload_n 2, 1) := by decide +kernel
theorem dX12_into_79 : decode cX12_into 79 = .ok (.if_icmp .ge 17, 3) := by decide +kernel
theorem dX12_into_82 : decode cX12_into 82 = .ok (.aload_n 0, 1) := by decide +kernel
theorem dX12_into_83 : decode cX12_into 83 = .ok (.getfield 20, 3) := by decide +kernel
theorem dX12_into_86 : decode cX12_into 86 = .ok (.iload_n 1, 1) := by decide +kernel
theorem dX12_into_87 : decode cX12_into 87 = .ok (.bipush 8, 2) := by decide +kernel
theorem dX12_into_89 : decode cX12_into 89 = .ok (.iadd, 1) := by decide +kernel
theorem dX12_into_90 : decode cX12_into 90 = .ok (.iaload, 1) := by decide +kernel
theorem dX12_into_91 : decode cX12_into 91 = .ok (.iload_n 3, 1) := by decide +kernel
theorem dX12_into_92 : decode cX12_into 92 = .ok (.iadd, 1) := by decide +kernel
theorem dX12_into_93 : decode cX12_into 93 = .ok (.goto 4, 3) := by decide +kernel
theorem dX12_into_96 : decode cX12_into 96 = .ok (.iload_n 2, 1) := by decide +kernel
theorem dX12_into_97 : decode cX12_into 97 = .ok (.istore_n 2, 1) := by decide +kernel
theorem dX12_into_98 : decode cX12_into 98 = .ok (.iload_n 1, 1) := by decide +kernel
theorem dX12_into_99 : decode cX12_into 99 = .ok (.bipush 8, 2) := by decide +kernel
theorem dX12_into_101 : decode cX12_into 101 = .ok (.irem, 1) := by decide +kernel
theorem dX12_into_102 : decode cX12_into 102 = .ok (.ifCond .le 30, 3) := by decide +kernel
theorem dX12_into_105 : decode cX12_into 105 = .ok (.aload_n 0, 1) := by decide +kernel
theorem dX12_into_106 : decode cX12_into 106 = .ok (.getfield 20, 3) := by decide +kernel
theorem dX12_into_109 : decode cX12_into 109 = .ok (.iload_n 1, 1) := by decide +kernel
theorem dX12_into_110 : decode cX12_into 110 = .ok (.iconst 1, 1) := by decide +kernel
theorem dX12_into_111 : decode cX12_into 111 = .ok (.isub, 1) := by decide +kernel
theorem dX12_into_112 : decode cX12_into 112 = .ok (.iaload, 1) := by decide +kernel
theorem dX12_into_113 : decode cX12_into 113 = .ok (.iload_n 3, 1) := by decide +kernel
theorem dX12_into_114 : decode cX12_into 114 = .ok (.iadd, 1) := by decide +kernel
theorem dX12_into_115 : decode cX12_into 115 = .ok (.iload_n 2, 1) := by decide +kernel
theorem dX12_into_116 : decode cX12_into 116 = .ok (.if_icmp .ge 16, 3) := by decide +kernel
theorem dX12_into_119 : decode cX12_into 119 = .ok (.aload_n 0, 1) := by decide +kernel
theorem dX12_into_120 : decode cX12_into 120 = .ok (.getfield 20, 3) := by decide +kernel
theorem dX12_into_123 : decode cX12_into 123 = .ok (.iload_n 1, 1) := by decide +kernel
theorem dX12_into_124 : decode cX12_into 124 = .ok (.iconst 1, 1) := by decide +kernel
theorem dX12_into_125 : decode cX12_into 125 = .ok (.isub, 1) := by decide +kernel
theorem dX12_into_126 : decode cX12_into 126 = .ok (.iaload, 1) := by decide +kernel
theorem dX12_into_127 : decode cX12_into 127 = .ok (.iload_n 3, 1) := by decide +kernel
theorem dX12_into_128 : decode cX12_into 128 = .ok (.iadd, 1) := by decide +kernel
theorem dX12_into_129 : decode cX12_into 129 = .ok (.goto 4, 3) := by decide +kernel
theorem dX12_into_132 : decode cX12_into 132 = .ok (.iload_n 2, 1) := by decide +kernel
theorem dX12_into_133 : decode cX12_into 133 = .ok (.istore_n 2, 1) := by decide +kernel
theorem dX12_into_134 : decode cX12_into 134 = .ok (.iload_n 1, 1) := by decide +kernel
theorem dX12_into_135 : decode cX12_into 135 = .ok (.bipush 8, 2) := by decide +kernel
theorem dX12_into_137 : decode cX12_into 137 = .ok (.irem, 1) := by decide +kernel
theorem dX12_into_138 : decode cX12_into 138 = .ok (.bipush 7, 2) := by decide +kernel
theorem dX12_into_140 : decode cX12_into 140 = .ok (.if_icmp .ge 30, 3) := by decide +kernel
theorem dX12_into_143 : decode cX12_into 143 = .ok (.aload_n 0, 1) := by decide +kernel
theorem dX12_into_144 : decode cX12_into 144 = .ok (.getfield 20, 3) := by decide +kernel
theorem dX12_into_147 : decode cX12_into 147 = .ok (.iload_n 1, 1) := by decide +kernel
theorem dX12_into_148 : decode cX12_into 148 = .ok (.iconst 1, 1) := by decide +kernel
theorem dX12_into_149 : decode cX12_into 149 = .ok (.iadd, 1) := by decide +kernel
theorem dX12_into_150 : decode cX12_into 150 = .ok (.iaload, 1) := by decide +kernel
theorem dX12_into_151 : decode cX12_into 151 = .ok (.iload_n 3, 1) := by decide +kernel
theorem dX12_into_152 : decode cX12_into 152 = .ok (.iadd, 1) := by decide +kernel
theorem dX12_into_153 : decode cX12_into 153 = .ok (.iload_n 2, 1) := by decide +kernel
theorem dX12_into_154 : decode cX12_into 154 = .ok (.if_icmp .ge 16, 3) := by decide +kernel
theorem dX12_into_157 : decode cX12_into 157 = .ok (.aload_n 0, 1) := by decide +kernel
theorem dX12_into_158 : decode cX12_into 158 = .ok (.getfield 20, 3) := by decide +kernel
theorem dX12_into_161 : decode cX12_into 161 = .ok (.iload_n 1, 1) := by decide +kernel
theorem dX12_into_162 : decode cX12_into 162 = .ok (.iconst 1, 1) := by decide +kernel
theorem dX12_into_163 : decode cX12_into 163 = .ok (.iadd, 1) := by decide +kernel
theorem dX12_into_164 : decode cX12_into 164 = .ok (.iaload, 1) := by decide +kernel
theorem dX12_into_165 : decode cX12_into 165 = .ok (.iload_n 3, 1) := by decide +kernel
theorem dX12_into_166 : decode cX12_into 166 = .ok (.iadd, 1) := by decide +kernel
theorem dX12_into_167 : decode cX12_into 167 = .ok (.goto 4, 3) := by decide +kernel
theorem dX12_into_170 : decode cX12_into 170 = .ok (.iload_n 2, 1) := by decide +kernel
theorem dX12_into_171 : decode cX12_into 171 = .ok (.istore_n 2, 1) := by decide +kernel
theorem dX12_into_172 : decode cX12_into 172 = .ok (.iload_n 2, 1) := by decide +kernel
theorem dX12_into_173 : decode cX12_into 173 = .ok (.ireturn, 1) := by decide +kernel
set_option maxRecDepth 20000 in
theorem ggX12_spread_X12_into : GoodIn wsX12_spread wsX12_into := goodIn_r _ [8, 3, 9, 1, 10, 11, 12, 13, 14, 15, 16, 17, 18, 19, 20, 21, 22, 23, 24, 25, 26, 27, 28, 29, 30, 31, 32, 33, 34, 35, 36, 37, 38] (by decide +kernel) (by decide +kernel)
set_option maxRecDepth 20000 in
theorem gX12_spread_X12_into : GoodIn wsX12_spread (wsV RX12 103 RX12 yX12_into wsX12_into) := goodIn_app (goodIn_of _ (by decide +kernel)) ggX12_spread_X12_into
theorem dX12_spread_0 : decode cX12_spread 0 = .ok (.iconst 1, 1) := by decide +kernel
theorem dX12_spread_1 : decode cX12_spread 1 = .ok (.istore_n 1, 1) := by decide +kernel
theorem dX12_spread_2 : decode cX12_spread 2 = .ok (.iload_n 1, 1) := by decide +kernel
theorem dX12_spread_3 : decode cX12_spread 3 = .ok (.ifCond .eq 69, 3) := by decide +kernel
theorem dX12_spread_6 : decode cX12_spread 6 = .ok (.iconst 0, 1) := by decide +kernel
theorem dX12_spread_7 : decode cX12_spread 7 = .ok (.istore_n 1, 1) := by decide +kernel
theorem dX12_spread_8 : decode cX12_spread 8 = .ok (.iconst 0, 1) := by decide +kernel
theorem dX12_spread_9 : decode cX12_spread 9 = .ok (.istore_n 2, 1) := by decide +kernel
theorem dX12_spread_10 : decode cX12_spread 10 = .ok (.iload_n 2, 1) := by decide +kernel
theorem dX12_spread_11 : decode cX12_spread 11 = .ok (.bipush 48, 2) := by decide +kernel
theorem dX12_spread_13 : decode cX12_spread 13 = .ok (.if_icmp .ge 56, 3) := by decide +kernel
theorem dX12_spread_16 : decode cX12_spread 16 = .ok (.aload_n 0, 1) := by decide +kernel
theorem dX12_spread_17 : decode cX12_spread 17 = .ok (.getfield 13, 3) := by decide +kernel
theorem dX12_spread_20 : decode cX12_spread 20 = .ok (.iload_n 2, 1) := by decide +kernel
theorem dX12_spread_21 : decode cX12_spread 21 = .ok (.iaload, 1) := by decide +kernel
theorem dX12_spread_22 : decode cX12_spread 22 = .ok (.ifCond .le 11, 3) := by decide +kernel
theorem dX12_spread_25 : decode cX12_spread 25 = .ok (.aload_n 0, 1) := by decide +kernel
theorem dX12_spread_26 : decode cX12_spread 26 = .ok (.iload_n 2, 1) := by decide +kernel
theorem dX12_spread_27 : decode cX12_spread 27 = .ok (.invokevirtual 103, 3) := by decide +kernel
theorem dX12_spread_30 : decode cX12_spread 30 = .ok (.goto 5, 3) := by decide +kernel
theorem dX12_spread_33 : decode cX12_spread 33 = .ok (.ldc 107, 2) := by decide +kernel
theorem dX12_spread_35 : decode cX12_spread 35 = .ok (.istore_n 3, 1) := by decide +kernel
theorem dX12_spread_36 : decode cX12_spread 36 = .ok (.iload_n 1, 1) := by decide +kernel
theorem dX12_spread_37 : decode cX12_spread 37 = .ok (.ifCond .ne 13, 3) := by decide +kernel
theorem dX12_spread_40 : decode cX12_spread 40 = .ok (.iload_n 3, 1) := by decide +kernel
theorem dX12_spread_41 : decode cX12_spread 41 = .ok (.aload_n 0, 1) := by decide +kernel
theorem dX12_spread_42 : decode cX12_spread 42 = .ok (.getfield 20, 3) := by decide +kernel
theorem dX12_spread_45 : decode cX12_spread 45 = .ok (.iload_n 2, 1) := by decide +kernel
theorem dX12_spread_46 : decode cX12_spread 46 = .ok (.iaload, 1) := by decide +kernel
theorem dX12_spread_47 : decode cX12_spread 47 = .ok (.if_icmp .ge 7, 3) := by decide +kernel
theorem dX12_spread_50 : decode cX12_spread 50 = .ok (.iconst 1, 1) := by decide +kernel
theorem dX12_spread_51 : decode cX12_spread 51 = .ok (.goto 4, 3) := by decide +kernel
theorem dX12_spread_54 : decode cX12_spread 54 = .ok (.iconst 0, 1) := by decide +kernel
theorem dX12_spread_55 : decode cX12_spread 55 = .ok (.istore_n 1, 1) := by decide +kernel
theorem dX12_spread_56 : decode cX12_spread 56 = .ok (.aload_n 0, 1) := by decide +kernel
theorem dX12_spread_57 : decode cX12_spread 57 = .ok (.getfield 20, 3) := by decide +kernel
theorem dX12_spread_60 : decode cX12_spread 60 = .ok (.iload_n 2, 1) := by decide +kernel
theorem dX12_spread_61 : decode cX12_spread 61 = .ok (.iload_n 3, 1) := by decide +kernel
theorem dX12_spread_62 : decode cX12_spread 62 = .ok (.iastore, 1) := by decide +kernel
theorem dX12_spread_63 : decode cX12_spread 63 = .ok (.iinc 2 1, 3) := by decide +kernel
theorem dX12_spread_66 : decode cX12_spread 66 = .ok (.goto (-56), 3) := by decide +kernel
theorem dX12_spread_69 : decode cX12_spread 69 = .ok (.goto (-67), 3) := by decide +kernel
theorem dX12_spread_72 : decode cX12_spread 72 = .ok (.return_, 1) := by decide +kernel
set_option maxRecDepth 20000 in
theorem ggX12_begin_X12_spread : GoodIn wsX12_begin wsX12_spread := goodIn_r _ [8, 2, 3, 1, 9, 10, 11, 7, 12, 13, 14, 15, 16, 17, 18, 19, 20, 21, 22, 23, 24, 25, 26, 27, 28, 29, 30, 31, 32, 33, 34, 35, 36, 37, 38, 39, 40, 41, 42] (by decide +kernel) (by decide +kernel)
set_option maxRecDepth 20000 in
theorem gX12_begin_X12_spread : GoodIn wsX12_begin (wsV RX12 108 RX12 yX12_spread wsX12_spread) := goodIn_app (goodIn_of _ (by decide +kernel)) ggX12_begin_X12_spread
theorem dX12_begin_0 : decode cX12_begin 0 = .ok (.iconst 0, 1) := by decide +kernel
theorem dX12_begin_1 : decode cX12_begin 1 = .ok (.istore_n 2, 1) := by decide +kernel
theorem dX12_begin_2 : decode cX12_begin 2 = .ok (.iload_n 2, 1) := by decide +kernel
theorem dX12_begin_3 : decode cX12_begin 3 = .ok (.bipush 48, 2) := by decide +kernel
theorem dX12_begin_5 : decode cX12_begin 5 = .ok (.if_icmp .ge 35, 3) := by decide +kernel
theorem dX12_begin_8 : decode cX12_begin 8 = .ok (.aload_n 0, 1) := by decide +kernel
theorem dX12_begin_9 : decode cX12_begin 9 = .ok (.getfield 20, 3) := by decide +kernel
theorem dX12_begin_12 : decode cX12_begin 12 = .ok (.iload_n 2, 1) := by decide +kernel
theorem dX12_begin_13 : decode cX12_begin 13 = .ok (.iload_n 2, 1) := by decide +kernel
theorem dX12_begin_14 : decode cX12_begin 14 = .ok (.iload_n 1, 1) := by decide +kernel
theorem dX12_begin_15 : decode cX12_begin 15 = .ok (.if_icmp .ne 16, 3) := by decide +kernel
theorem dX12_begin_18 : decode cX12_begin 18 = .ok (.aload_n 0, 1) := by decide +kernel
theorem dX12_begin_19 : decode cX12_begin 19 = .ok (.getfield 13, 3) := by decide +kernel
theorem dX12_begin_22 : decode cX12_begin 22 = .ok (.iload_n 2, 1) := by decide +kernel
theorem dX12_begin_23 : decode cX12_begin 23 = .ok (.iaload, 1) := by decide +kernel
theorem dX12_begin_24 : decode cX12_begin 24 = .ok (.ifCond .le 7, 3) := by decide +kernel
theorem dX12_begin_27 : decode cX12_begin 27 = .ok (.iconst 0, 1) := by decide +kernel
theorem dX12_begin_28 : decode cX12_begin 28 = .ok (.goto 5, 3) := by decide +kernel
theorem dX12_begin_31 : decode cX12_begin 31 = .ok (.ldc 107, 2) := by decide +kernel
theorem dX12_begin_33 : decode cX12_begin 33 = .ok (.iastore, 1) := by decide +kernel
theorem dX12_begin_34 : decode cX12_begin 34 = .ok (.iinc 2 1, 3) := by decide +kernel
theorem dX12_begin_37 : decode cX12_begin 37 = .ok (.goto (-35), 3) := by decide +kernel
theorem dX12_begin_40 : decode cX12_begin 40 = .ok (.aload_n 0, 1) := by decide +kernel
theorem dX12_begin_41 : decode cX12_begin 41 = .ok (.invokevirtual 108, 3) := by decide +kernel
theorem dX12_begin_44 : decode cX12_begin 44 = .ok (.return_, 1) := by decide +kernel
set_option maxRecDepth 20000 in
theorem ggX12_time_X12_isCell : GoodIn wsX12_time wsX12_isCell := goodIn_r _ [6, 7, 8, 5, 9] (by decide +kernel) (by decide +kernel)
set_option maxRecDepth 20000 in
theorem gX12_time_X12_isCell : GoodIn wsX12_time (va_wsS RX12 99 yX12_isCell wsX12_isCell) := goodIn_app (goodIn_of _ (by decide +kernel)) ggX12_time_X12_isCell
set_option maxRecDepth 20000 in
theorem ggX12_time_X12_begin : GoodIn wsX12_time wsX12_begin := goodIn_r _ [13, 1, 14, 2, 15, 16, 17, 5, 18, 19, 20, 21, 22, 23, 24, 25, 26, 27, 28, 29, 30, 31, 32, 33, 34, 35, 36, 37, 38, 39, 40, 41, 42, 43, 44, 45, 46, 47, 48, 49, 50, 51, 52] (by decide +kernel) (by decide +kernel)
set_option maxRecDepth 20000 in
theorem gX12_time_X12_begin : GoodIn wsX12_time (wsV RX12 111 RX12 yX12_begin wsX12_begin) := goodIn_app (goodIn_of _ (by decide +kernel)) ggX12_time_X12_begin
theorem dX12_time_0 : decode cX12_time 0 = .ok (.iload_n 1, 1) := by decide +kernel
theorem dX12_time_1 : decode cX12_time 1 = .ok (.invokestatic 99, 3) := by decide +kernel
theorem dX12_time_4 : decode cX12_time 4 = .ok (.ifCond .eq 10, 3) := by decide +kernel
theorem dX12_time_7 : decode cX12_time 7 = .ok (.iload_n 2, 1) := by decide +kernel
theorem dX12_time_8 : decode cX12_time 8 = .ok (.invokestatic 99, 3) := by decide +kernel
theorem dX12_time_11 : decode cX12_time 11 = .ok (.ifCond .ne 5, 3) := by decide +kernel
theorem dX12_time_14 : decode cX12_time 14 = .ok (.iconst (-1), 1) := by decide +kernel
theorem dX12_time_15 : decode cX12_time 15 = .ok (.ireturn, 1) := by decide +kernel
theorem dX12_time_16 : decode cX12_time 16 = .ok (.aload_n 0, 1) := by decide +kernel
theorem dX12_time_17 : decode cX12_time 17 = .ok (.iload_n 1, 1) := by decide +kernel
theorem dX12_time_18 : decode cX12_time 18 = .ok (.invokevirtual 111, 3) := by decide +kernel
theorem dX12_time_21 : decode cX12_time 21 = .ok (.aload_n 0, 1) := by decide +kernel
theorem dX12_time_22 : decode cX12_time 22 = .ok (.getfield 20, 3) := by decide +kernel
theorem dX12_time_25 : decode cX12_time 25 = .ok (.iload_n 2, 1) := by decide +kernel
theorem dX12_time_26 : decode cX12_time 26 = .ok (.iaload, 1) := by decide +kernel
theorem dX12_time_27 : decode cX12_time 27 = .ok (.ldc 107, 2) := by decide +kernel
theorem dX12_time_29 : decode cX12_time 29 = .ok (.if_icmp .ne 8, 3) := by decide +kernel
theorem dX12_time_32 : decode cX12_time 32 = .ok (.bipush (-9), 2) := by decide +kernel
theorem dX12_time_34 : decode cX12_time 34 = .ok (.goto 9, 3) := by decide +kernel
theorem dX12_time_37 : decode cX12_time 37 = .ok (.aload_n 0, 1) := by decide +kernel
theorem dX12_time_38 : decode cX12_time 38 = .ok (.getfield 20, 3) := by decide +kernel
theorem dX12_time_41 : decode cX12_time 41 = .ok (.iload_n 2, 1) := by decide +kernel
theorem dX12_time_42 : decode cX12_time 42 = .ok (.iaload, 1) := by decide +kernel
theorem dX12_time_43 : decode cX12_time 43 = .ok (.ireturn, 1) := by decide +kernel
set_option maxRecDepth 20000 in
theorem ggX12_heightAt_X12_in : GoodIn wsX12_heightAt wsX12_in := goodIn_r _ [7] (by decide +kernel) (by decide +kernel)
set_option maxRecDepth 20000 in
theorem gX12_heightAt_X12_in : GoodIn wsX12_heightAt (va_wsS RX12 86 yX12_in wsX12_in) := goodIn_app (goodIn_of _ (by decide +kernel)) ggX12_heightAt_X12_in
theorem dX12_heightAt_0 : decode cX12_heightAt 0 = .ok (.iload_n 1, 1) := by decide +kernel
theorem dX12_heightAt_1 : decode cX12_heightAt 1 = .ok (.aload_n 0, 1) := by decide +kernel
theorem dX12_heightAt_2 : decode cX12_heightAt 2 = .ok (.getfield 17, 3) := by decide +kernel
theorem dX12_heightAt_5 : decode cX12_heightAt 5 = .ok (.iconst 1, 1) := by decide +kernel
theorem dX12_heightAt_6 : decode cX12_heightAt 6 = .ok (.iaload, 1) := by decide +kernel
theorem dX12_heightAt_7 : decode cX12_heightAt 7 = .ok (.imul, 1) := by decide +kernel
theorem dX12_heightAt_8 : decode cX12_heightAt 8 = .ok (.aload_n 0, 1) := by decide +kernel
theorem dX12_heightAt_9 : decode cX12_heightAt 9 = .ok (.getfield 17, 3) := by decide +kernel
theorem dX12_heightAt_12 : decode cX12_heightAt 12 = .ok (.iconst 1, 1) := by decide +kernel
theorem dX12_heightAt_13 : decode cX12_heightAt 13 = .ok (.iaload, 1) := by decide +kernel
theorem dX12_heightAt_14 : decode cX12_heightAt 14 = .ok (.aload_n 0, 1) := by decide +kernel
