theorem dX12_heightAt_15 : decode cX12_heightAt 15 = .ok (.getfield 20, 3) := by decide +kernel
theorem dX12_heightAt_18 : decode cX12_heightAt 18 = .ok (.iload_n 2, 1) := by decide +kernel
theorem dX12_heightAt_19 : decode cX12_heightAt 19 = .ok (.iaload, 1) := by decide +kernel
theorem dX12_heightAt_20 : decode cX12_heightAt 20 = .ok (.iadd, 1) := by decide +kernel
theorem dX12_heightAt_21 : decode cX12_heightAt 21 = .ok (.idiv, 1) := by decide +kernel
theorem dX12_heightAt_22 : decode cX12_heightAt 22 = .ok (.istore_n 3, 1) := by decide +kernel
theorem dX12_heightAt_23 : decode cX12_heightAt 23 = .ok (.aload_n 0, 1) := by decide +kernel
theorem dX12_heightAt_24 : decode cX12_heightAt 24 = .ok (.getfield 13, 3) := by decide +kernel
theorem dX12_heightAt_27 : decode cX12_heightAt 27 = .ok (.iload_n 2, 1) := by decide +kernel
theorem dX12_heightAt_28 : decode cX12_heightAt 28 = .ok (.iaload, 1) := by decide +kernel
theorem dX12_heightAt_29 : decode cX12_heightAt 29 = .ok (.iconst 1, 1) := by decide +kernel
theorem dX12_heightAt_30 : decode cX12_heightAt 30 = .ok (.iconst 2, 1) := by decide +kernel
theorem dX12_heightAt_31 : decode cX12_heightAt 31 = .ok (.invokestatic 86, 3) := by decide +kernel
theorem dX12_heightAt_34 : decode cX12_heightAt 34 = .ok (.ifCond .eq 9, 3) := by decide +kernel
theorem dX12_heightAt_37 : decode cX12_heightAt 37 = .ok (.iconst 2, 1) := by decide +kernel
theorem dX12_heightAt_38 : decode cX12_heightAt 38 = .ok (.iload_n 3, 1) := by decide +kernel
theorem dX12_heightAt_39 : decode cX12_heightAt 39 = .ok (.imul, 1) := by decide +kernel
theorem dX12_heightAt_40 : decode cX12_heightAt 40 = .ok (.goto 4, 3) := by decide +kernel
theorem dX12_heightAt_43 : decode cX12_heightAt 43 = .ok (.iload_n 3, 1) := by decide +kernel
theorem dX12_heightAt_44 : decode cX12_heightAt 44 = .ok (.ireturn, 1) := by decide +kernel
set_option maxRecDepth 20000 in
theorem ggX12_height_X12_isCell : GoodIn wsX12_height wsX12_isCell := goodIn_r _ [6, 7, 8, 5, 9] (by decide +kernel) (by decide +kernel)
set_option maxRecDepth 20000 in
theorem gX12_height_X12_isCell : GoodIn wsX12_height (va_wsS RX12 99 yX12_isCell wsX12_isCell) := goodIn_app (goodIn_of _ (by decide +kernel)) ggX12_height_X12_isCell
set_option maxRecDepth 20000 in
theorem ggX12_height_X12_in : GoodIn wsX12_height wsX12_in := goodIn_r _ [9] (by decide +kernel) (by decide +kernel)
set_option maxRecDepth 20000 in
theorem gX12_height_X12_in : GoodIn wsX12_height (va_wsS RX12 86 yX12_in wsX12_in) := goodIn_app (goodIn_of _ (by decide +kernel)) ggX12_height_X12_in
set_option maxRecDepth 20000 in
theorem ggX12_height_X12_begin : GoodIn wsX12_height wsX12_begin := goodIn_r _ [13, 1, 14, 2, 15, 16, 17, 5, 18, 19, 20, 21, 22, 23, 28, 29, 30, 31, 32, 33, 34, 35, 36, 37, 38, 39, 40, 41, 42, 43, 44, 45, 46, 47, 48, 49, 50, 51, 52, 53, 54, 55, 56] (by decide +kernel) (by decide +kernel)
set_option maxRecDepth 20000 in
theorem gX12_height_X12_begin : GoodIn wsX12_height (wsV RX12 111 RX12 yX12_begin wsX12_begin) := goodIn_app (goodIn_of _ (by decide +kernel)) ggX12_height_X12_begin
set_option maxRecDepth 20000 in
theorem ggX12_height_X12_heightAt : GoodIn wsX12_height wsX12_heightAt := goodIn_r _ [27, 23, 1, 14, 7, 8, 5, 9, 28, 29, 30, 31, 32, 33, 34, 35, 36, 37, 38, 39, 40, 41, 42, 43, 44, 45, 46, 47, 48, 49, 50, 51, 52, 53, 54, 55, 56] (by decide +kernel) (by decide +kernel)
set_option maxRecDepth 20000 in
theorem gX12_height_X12_heightAt : GoodIn wsX12_height (wsV RX12 115 RX12 yX12_heightAt wsX12_heightAt) := goodIn_app (goodIn_of _ (by decide +kernel)) ggX12_height_X12_heightAt
theorem dX12_height_0 : decode cX12_height 0 = .ok (.iload_n 1, 1) := by decide +kernel
theorem dX12_height_1 : decode cX12_height 1 = .ok (.invokestatic 99, 3) := by decide +kernel
theorem dX12_height_4 : decode cX12_height 4 = .ok (.ifCond .eq 20, 3) := by decide +kernel
theorem dX12_height_7 : decode cX12_height 7 = .ok (.iload_n 2, 1) := by decide +kernel
theorem dX12_height_8 : decode cX12_height 8 = .ok (.iconst 1, 1) := by decide +kernel
theorem dX12_height_9 : decode cX12_height 9 = .ok (.bipush 99, 2) := by decide +kernel
theorem dX12_height_11 : decode cX12_height 11 = .ok (.invokestatic 86, 3) := by decide +kernel
theorem dX12_height_14 : decode cX12_height 14 = .ok (.ifCond .eq 10, 3) := by decide +kernel
theorem dX12_height_17 : decode cX12_height 17 = .ok (.iload_n 3, 1) := by decide +kernel
theorem dX12_height_18 : decode cX12_height 18 = .ok (.invokestatic 99, 3) := by decide +kernel
theorem dX12_height_21 : decode cX12_height 21 = .ok (.ifCond .ne 5, 3) := by decide +kernel
theorem dX12_height_24 : decode cX12_height 24 = .ok (.iconst (-1), 1) := by decide +kernel
theorem dX12_height_25 : decode cX12_height 25 = .ok (.ireturn, 1) := by decide +kernel
theorem dX12_height_26 : decode cX12_height 26 = .ok (.aload_n 0, 1) := by decide +kernel
theorem dX12_height_27 : decode cX12_height 27 = .ok (.iload_n 1, 1) := by decide +kernel
theorem dX12_height_28 : decode cX12_height 28 = .ok (.invokevirtual 111, 3) := by decide +kernel
theorem dX12_height_31 : decode cX12_height 31 = .ok (.aload_n 0, 1) := by decide +kernel
theorem dX12_height_32 : decode cX12_height 32 = .ok (.getfield 20, 3) := by decide +kernel
theorem dX12_height_35 : decode cX12_height 35 = .ok (.iload_n 3, 1) := by decide +kernel
theorem dX12_height_36 : decode cX12_height 36 = .ok (.iaload, 1) := by decide +kernel
theorem dX12_height_37 : decode cX12_height 37 = .ok (.ldc 107, 2) := by decide +kernel
theorem dX12_height_39 : decode cX12_height 39 = .ok (.if_icmp .ne 8, 3) := by decide +kernel
theorem dX12_height_42 : decode cX12_height 42 = .ok (.bipush (-9), 2) := by decide +kernel
theorem dX12_height_44 : decode cX12_height 44 = .ok (.goto 9, 3) := by decide +kernel
theorem dX12_height_47 : decode cX12_height 47 = .ok (.aload_n 0, 1) := by decide +kernel
theorem dX12_height_48 : decode cX12_height 48 = .ok (.iload_n 2, 1) := by decide +kernel
theorem dX12_height_49 : decode cX12_height 49 = .ok (.iload_n 3, 1) := by decide +kernel
theorem dX12_height_50 : decode cX12_height 50 = .ok (.invokevirtual 115, 3) := by decide +kernel
theorem dX12_height_53 : decode cX12_height 53 = .ok (.ireturn, 1) := by decide +kernel
set_option maxRecDepth 20000 in
theorem ggX12_book_X12_isSea : GoodIn wsX12_book wsX12_isSea := goodIn_r _ [7, 8, 9, 10, 6, 11, 12, 13, 14, 15, 16, 17, 18, 19, 20, 21, 22, 23, 24, 25, 26, 27, 28, 29, 30, 31, 32, 33, 34, 35, 36, 37, 38, 39, 40, 41, 42, 43] (by decide +kernel) (by decide +kernel)
set_option maxRecDepth 20000 in
theorem gX12_book_X12_isSea : GoodIn wsX12_book (wsV RX12 119 RX12 yX12_isSea wsX12_isSea) := goodIn_app (goodIn_of _ (by decide +kernel)) ggX12_book_X12_isSea
set_option maxRecDepth 20000 in
theorem ggX12_book_X12_in : GoodIn wsX12_book wsX12_in := goodIn_r _ [14] (by decide +kernel) (by decide +kernel)
set_option maxRecDepth 20000 in
theorem gX12_book_X12_in : GoodIn wsX12_book (va_wsS RX12 86 yX12_in wsX12_in) := goodIn_app (goodIn_of _ (by decide +kernel)) ggX12_book_X12_in
theorem dX12_book_0 : decode cX12_book 0 = .ok (.aload_n 0, 1) := by decide +kernel
theorem dX12_book_1 : decode cX12_book 1 = .ok (.iload_n 1, 1) := by decide +kernel
theorem dX12_book_2 : decode cX12_book 2 = .ok (.invokevirtual 119, 3) := by decide +kernel
theorem dX12_book_5 : decode cX12_book 5 = .ok (.ifCond .eq 52, 3) := by decide +kernel
theorem dX12_book_8 : decode cX12_book 8 = .ok (.iload_n 2, 1) := by decide +kernel
theorem dX12_book_9 : decode cX12_book 9 = .ok (.sipush (-9999), 3) := by decide +kernel
theorem dX12_book_12 : decode cX12_book 12 = .ok (.sipush 9999, 3) := by decide +kernel
theorem dX12_book_15 : decode cX12_book 15 = .ok (.invokestatic 86, 3) := by decide +kernel
theorem dX12_book_18 : decode cX12_book 18 = .ok (.ifCond .eq 39, 3) := by decide +kernel
theorem dX12_book_21 : decode cX12_book 21 = .ok (.iload_n 3, 1) := by decide +kernel
theorem dX12_book_22 : decode cX12_book 22 = .ok (.iload_n 2, 1) := by decide +kernel
theorem dX12_book_23 : decode cX12_book 23 = .ok (.sipush 9999, 3) := by decide +kernel
theorem dX12_book_26 : decode cX12_book 26 = .ok (.invokestatic 86, 3) := by decide +kernel
theorem dX12_book_29 : decode cX12_book 29 = .ok (.ifCond .eq 28, 3) := by decide +kernel
theorem dX12_book_32 : decode cX12_book 32 = .ok (.iload 4, 2) := by decide +kernel
theorem dX12_book_34 : decode cX12_book 34 = .ok (.iconst 0, 1) := by decide +kernel
theorem dX12_book_35 : decode cX12_book 35 = .ok (.sipush 999, 3) := by decide +kernel
theorem dX12_book_38 : decode cX12_book 38 = .ok (.invokestatic 86, 3) := by decide +kernel
theorem dX12_book_41 : decode cX12_book 41 = .ok (.ifCond .eq 16, 3) := by decide +kernel
theorem dX12_book_44 : decode cX12_book 44 = .ok (.iload 5, 2) := by decide +kernel
theorem dX12_book_46 : decode cX12_book 46 = .ok (.iload 4, 2) := by decide +kernel
theorem dX12_book_48 : decode cX12_book 48 = .ok (.sipush 999, 3) := by decide +kernel
theorem dX12_book_51 : decode cX12_book 51 = .ok (.invokestatic 86, 3) := by decide +kernel
theorem dX12_book_54 : decode cX12_book 54 = .ok (.ifCond .ne 5, 3) := by decide +kernel
theorem dX12_book_57 : decode cX12_book 57 = .ok (.iconst (-1), 1) := by decide +kernel
theorem dX12_book_58 : decode cX12_book 58 = .ok (.ireturn, 1) := by decide +kernel
theorem dX12_book_59 : decode cX12_book 59 = .ok (.aload_n 0, 1) := by decide +kernel
theorem dX12_book_60 : decode cX12_book 60 = .ok (.getfield 23, 3) := by decide +kernel
theorem dX12_book_63 : decode cX12_book 63 = .ok (.iconst 0, 1) := by decide +kernel
theorem dX12_book_64 : decode cX12_book 64 = .ok (.iaload, 1) := by decide +kernel
theorem dX12_book_65 : decode cX12_book 65 = .ok (.bipush 6, 2) := by decide +kernel
theorem dX12_book_67 : decode cX12_book 67 = .ok (.if_icmp .ne 6, 3) := by decide +kernel
theorem dX12_book_70 : decode cX12_book 70 = .ok (.bipush (-3), 2) := by decide +kernel
theorem dX12_book_72 : decode cX12_book 72 = .ok (.ireturn, 1) := by decide +kernel
theorem dX12_book_73 : decode cX12_book 73 = .ok (.iconst 5, 1) := by decide +kernel
theorem dX12_book_74 : decode cX12_book 74 = .ok (.aload_n 0, 1) := by decide +kernel
theorem dX12_book_75 : decode cX12_book 75 = .ok (.getfield 23, 3) := by decide +kernel
theorem dX12_book_78 : decode cX12_book 78 = .ok (.iconst 0, 1) := by decide +kernel
theorem dX12_book_79 : decode cX12_book 79 = .ok (.iaload, 1) := by decide +kernel
theorem dX12_book_80 : decode cX12_book 80 = .ok (.imul, 1) := by decide +kernel
theorem dX12_book_81 : decode cX12_book 81 = .ok (.istore 6, 2) := by decide +kernel
theorem dX12_book_83 : decode cX12_book 83 = .ok (.aload_n 0, 1) := by decide +kernel
theorem dX12_book_84 : decode cX12_book 84 = .ok (.getfield 26, 3) := by decide +kernel
theorem dX12_book_87 : decode cX12_book 87 = .ok (.iload 6, 2) := by decide +kernel
theorem dX12_book_89 : decode cX12_book 89 = .ok (.iload_n 1, 1) := by decide +kernel
theorem dX12_book_90 : decode cX12_book 90 = .ok (.iastore, 1) := by decide +kernel
theorem dX12_book_91 : decode cX12_book 91 = .ok (.aload_n 0, 1) := by decide +kernel
theorem dX12_book_92 : decode cX12_book 92 = .ok (.getfield 26, 3) := by decide +kernel
theorem dX12_book_95 : decode cX12_book 95 = .ok (.iload 6, 2) := by decide +kernel
theorem dX12_book_97 : decode cX12_book 97 = .ok (.iconst 1, 1) := by decide +kernel
theorem dX12_book_98 : decode cX12_book 98 = .ok (.iadd, 1) := by decide +kernel
theorem dX12_book_99 : decode cX12_book 99 = .ok (.iload_n 2, 1) := by decide +kernel
theorem dX12_book_100 : decode cX12_book 100 = .ok (.iastore, 1) := by decide +kernel
theorem dX12_book_101 : decode cX12_book 101 = .ok (.aload_n 0, 1) := by decide +kernel
theorem dX12_book_102 : decode cX12_book 102 = .ok (.getfield 26, 3) := by decide +kernel
theorem dX12_book_105 : decode cX12_book 105 = .ok (.iload 6, 2) := by decide +kernel
theorem dX12_book_107 : decode cX12_book 107 = .ok (.iconst 2, 1) := by decide +kernel
theorem dX12_book_108 : decode cX12_book 108 = .ok (.iadd, 1) := by decide +kernel
theorem dX12_book_109 : decode cX12_book 109 = .ok (.iload_n 3, 1) := by decide +kernel
theorem dX12_book_110 : decode cX12_book 110 = .ok (.iastore, 1) := by decide +kernel
theorem dX12_book_111 : decode cX12_book 111 = .ok (.aload_n 0, 1) := by decide +kernel
theorem dX12_book_112 : decode cX12_book 112 = .ok (.getfield 26, 3) := by decide +kernel
theorem dX12_book_115 : decode cX12_book 115 = .ok (.iload 6, 2) := by decide +kernel
theorem dX12_book_117 : decode cX12_book 117 = .ok (.iconst 3, 1) := by decide +kernel
theorem dX12_book_118 : decode cX12_book 118 = .ok (.iadd, 1) := by decide +kernel
theorem dX12_book_119 : decode cX12_book 119 = .ok (.iload 4, 2) := by decide +kernel
theorem dX12_book_121 : decode cX12_book 121 = .ok (.iastore, 1) := by decide +kernel
theorem dX12_book_122 : decode cX12_book 122 = .ok (.aload_n 0, 1) := by decide +kernel
theorem dX12_book_123 : decode cX12_book 123 = .ok (.getfield 26, 3) := by decide +kernel
theorem dX12_book_126 : decode cX12_book 126 = .ok (.iload 6, 2) := by decide +kernel
theorem dX12_book_128 : decode cX12_book 128 = .ok (.iconst 4, 1) := by decide +kernel
theorem dX12_book_129 : decode cX12_book 129 = .ok (.iadd, 1) := by decide +kernel
theorem dX12_book_130 : decode cX12_book 130 = .ok (.iload 5, 2) := by decide +kernel
theorem dX12_book_132 : decode cX12_book 132 = .ok (.iastore, 1) := by decide +kernel
theorem dX12_book_133 : decode cX12_book 133 = .ok (.aload_n 0, 1) := by decide +kernel
theorem dX12_book_134 : decode cX12_book 134 = .ok (.getfield 23, 3) := by decide +kernel
theorem dX12_book_137 : decode cX12_book 137 = .ok (.iconst 0, 1) := by decide +kernel
theorem dX12_book_138 : decode cX12_book 138 = .ok (.dup2, 1) := by decide +kernel
theorem dX12_book_139 : decode cX12_book 139 = .ok (.iaload, 1) := by decide +kernel
theorem dX12_book_140 : decode cX12_book 140 = .ok (.iconst 1, 1) := by decide +kernel
theorem dX12_book_141 : decode cX12_book 141 = .ok (.iadd, 1) := by decide +kernel
theorem dX12_book_142 : decode cX12_book 142 = .ok (.iastore, 1) := by decide +kernel
theorem dX12_book_143 : decode cX12_book 143 = .ok (.aload_n 0, 1) := by decide +kernel
theorem dX12_book_144 : decode cX12_book 144 = .ok (.getfield 23, 3) := by decide +kernel
theorem dX12_book_147 : decode cX12_book 147 = .ok (.iconst 0, 1) := by decide +kernel
theorem dX12_book_148 : decode cX12_book 148 = .ok (.iaload, 1) := by decide +kernel
theorem dX12_book_149 : decode cX12_book 149 = .ok (.iconst 1, 1) := by decide +kernel
theorem dX12_book_150 : decode cX12_book 150 = .ok (.isub, 1) := by decide +kernel
theorem dX12_book_151 : decode cX12_book 151 = .ok (.ireturn, 1) := by decide +kernel
set_option maxRecDepth 20000 in
theorem ggX12_findBegins_X12_heightAt : GoodIn wsX12_findBegins wsX12_heightAt := goodIn_r _ [12, 13, 7, 14, 15, 16, 11, 17, 18, 19, 20, 21, 22, 23, 24, 25, 26, 27, 28, 29, 30, 31, 32, 33, 34, 35, 36, 37, 38, 39, 40, 41, 42, 43, 44, 45, 46] (by decide +kernel) (by decide +kernel)
set_option maxRecDepth 20000 in
theorem gX12_findBegins_X12_heightAt : GoodIn wsX12_findBegins (wsV RX12 115 RX12 yX12_heightAt wsX12_heightAt) := goodIn_app (goodIn_of _ (by decide +kernel)) ggX12_findBegins_X12_heightAt
set_option maxRecDepth 20000 in
theorem ggX12_findBegins_X12_in : GoodIn wsX12_findBegins wsX12_in := goodIn_r _ [17] (by decide +kernel) (by decide +kernel)
set_option maxRecDepth 20000 in
theorem gX12_findBegins_X12_in : GoodIn wsX12_findBegins (va_wsS RX12 86 yX12_in wsX12_in) := goodIn_app (goodIn_of _ (by decide +kernel)) ggX12_findBegins_X12_in
theorem dX12_findBegins_0 : decode cX12_findBegins 0 = .ok (.aload_n 0, 1) := by decide +kernel
theorem dX12_findBegins_1 : decode cX12_findBegins 1 = .ok (.ldc 122, 2) := by decide +kernel
theorem dX12_findBegins_3 : decode cX12_findBegins 3 = .ok (.putfield 123, 3) := by decide +kernel
theorem dX12_findBegins_6 : decode cX12_findBegins 6 = .ok (.aload_n 0, 1) := by decide +kernel
theorem dX12_findBegins_7 : decode cX12_findBegins 7 = .ok (.ldc 107, 2) := by decide +kernel
theorem dX12_findBegins_9 : decode cX12_findBegins 9 = .ok (.putfield 126, 3) := by decide +kernel
theorem dX12_findBegins_12 : decode cX12_findBegins 12 = .ok (.iconst 0, 1) := by decide +kernel
theorem dX12_findBegins_13 : decode cX12_findBegins 13 = .ok (.istore_n 2, 1) := by decide +kernel
theorem dX12_findBegins_14 : decode cX12_findBegins 14 = .ok (.iload_n 2, 1) := by decide +kernel
theorem dX12_findBegins_15 : decode cX12_findBegins 15 = .ok (.aload_n 0, 1) := by decide +kernel
theorem dX12_findBegins_16 : decode cX12_findBegins 16 = .ok (.getfield 23, 3) := by decide +kernel
theorem dX12_findBegins_19 : decode cX12_findBegins 19 = .ok (.iconst 0, 1) := by decide +kernel
theorem dX12_findBegins_20 : decode cX12_findBegins 20 = .ok (.iaload, 1) := by decide +kernel
theorem dX12_findBegins_21 : decode cX12_findBegins 21 = .ok (.if_icmp .ge 170, 3) := by decide +kernel
theorem dX12_findBegins_24 : decode cX12_findBegins 24 = .ok (.aload_n 0, 1) := by decide +kernel
theorem dX12_findBegins_25 : decode cX12_findBegins 25 = .ok (.getfield 26, 3) := by decide +kernel
theorem dX12_findBegins_28 : decode cX12_findBegins 28 = .ok (.iconst 5, 1) := by decide +kernel
theorem dX12_findBegins_29 : decode cX12_findBegins 29 = .ok (.iload_n 2, 1) := by decide +kernel
theorem dX12_findBegins_30 : decode cX12_findBegins 30 = .ok (.imul, 1) := by decide +kernel
theorem dX12_findBegins_31 : decode cX12_findBegins 31 = .ok (.iaload, 1) := by decide +kernel
theorem dX12_findBegins_32 : decode cX12_findBegins 32 = .ok (.istore_n 3, 1) := by decide +kernel
theorem dX12_findBegins_33 : decode cX12_findBegins 33 = .ok (.aload_n 0, 1) := by decide +kernel
theorem dX12_findBegins_34 : decode cX12_findBegins 34 = .ok (.getfield 20, 3) := by decide +kernel
theorem dX12_findBegins_37 : decode cX12_findBegins 37 = .ok (.iload_n 3, 1) := by decide +kernel
theorem dX12_findBegins_38 : decode cX12_findBegins 38 = .ok (.iaload, 1) := by decide +kernel
theorem dX12_findBegins_39 : decode cX12_findBegins 39 = .ok (.ldc 107, 2) := by decide +kernel
theorem dX12_findBegins_41 : decode cX12_findBegins 41 = .ok (.if_icmp .ge 39, 3) := by decide +kernel
theorem dX12_findBegins_44 : decode cX12_findBegins 44 = .ok (.aload_n 0, 1) := by decide +kernel
theorem dX12_findBegins_45 : decode cX12_findBegins 45 = .ok (.iload_n 1, 1) := by decide +kernel
theorem dX12_findBegins_46 : decode cX12_findBegins 46 = .ok (.iload_n 3, 1) := by decide +kernel
theorem dX12_findBegins_47 : decode cX12_findBegins 47 = .ok (.invokevirtual 115, 3) := by decide +kernel
theorem dX12_findBegins_50 : decode cX12_findBegins 50 = .ok (.aload_n 0, 1) := by decide +kernel
theorem dX12_findBegins_51 : decode cX12_findBegins 51 = .ok (.getfield 26, 3) := by decide +kernel
theorem dX12_findBegins_54 : decode cX12_findBegins 54 = .ok (.iconst 5, 1) := by decide +kernel
theorem dX12_findBegins_55 : decode cX12_findBegins 55 = .ok (.iload_n 2, 1) := by decide +kernel
theorem dX12_findBegins_56 : decode cX12_findBegins 56 = .ok (.imul, 1) := by decide +kernel
theorem dX12_findBegins_57 : decode cX12_findBegins 57 = .ok (.iconst 3, 1) := by decide +kernel
theorem dX12_findBegins_58 : decode cX12_findBegins 58 = .ok (.iadd, 1) := by decide +kernel
theorem dX12_findBegins_59 : decode cX12_findBegins 59 = .ok (.iaload, 1) := by decide +kernel
theorem dX12_findBegins_60 : decode cX12_findBegins 60 = .ok (.aload_n 0, 1) := by decide +kernel
theorem dX12_findBegins_61 : decode cX12_findBegins 61 = .ok (.getfield 26, 3) := by decide +kernel
theorem dX12_findBegins_64 : decode cX12_findBegins 64 = .ok (.iconst 5, 1) := by decide +kernel
theorem dX12_findBegins_65 : decode cX12_findBegins 65 = .ok (.iload_n 2, 1) := by decide +kernel
theorem dX12_findBegins_66 : decode cX12_findBegins 66 = .ok (.imul, 1) := by decide +kernel
theorem dX12_findBegins_67 : decode cX12_findBegins 67 = .ok (.iconst 4, 1) := by decide +kernel
theorem dX12_findBegins_68 : decode cX12_findBegins 68 = .ok (.iadd, 1) := by decide +kernel
theorem dX12_findBegins_69 : decode cX12_findBegins 69 = .ok (.iaload, 1) := by decide +kernel
theorem dX12_findBegins_70 : decode cX12_findBegins 70 = .ok (.invokestatic 86, 3) := by decide +kernel
theorem dX12_findBegins_73 : decode cX12_findBegins 73 = .ok (.ifCond .eq 7, 3) := by decide +kernel
theorem dX12_findBegins_76 : decode cX12_findBegins 76 = .ok (.iconst 1, 1) := by decide +kernel
theorem dX12_findBegins_77 : decode cX12_findBegins 77 = .ok (.goto 4, 3) := by decide +kernel
theorem dX12_findBegins_80 : decode cX12_findBegins 80 = .ok (.iconst 0, 1) := by decide +kernel
theorem dX12_findBegins_81 : decode cX12_findBegins 81 = .ok (.istore 4, 2) := by decide +kernel
theorem dX12_findBegins_83 : decode cX12_findBegins 83 = .ok (.iload 4, 2) := by decide +kernel
theorem dX12_findBegins_85 : decode cX12_findBegins 85 = .ok (.ifCond .eq 23, 3) := by decide +kernel
theorem dX12_findBegins_88 : decode cX12_findBegins 88 = .ok (.aload_n 0, 1) := by decide +kernel
theorem dX12_findBegins_89 : decode cX12_findBegins 89 = .ok (.getfield 26, 3) := by decide +kernel
theorem dX12_findBegins_92 : decode cX12_findBegins 92 = .ok (.iconst 5, 1) := by decide +kernel
theorem dX12_findBegins_93 : decode cX12_findBegins 93 = .ok (.iload_n 2, 1) := by decide +kernel
theorem dX12_findBegins_94 : decode cX12_findBegins 94 = .ok (.imul, 1) := by decide +kernel
theorem dX12_findBegins_95 : decode cX12_findBegins 95 = .ok (.iconst 1, 1) := by decide +kernel
theorem dX12_findBegins_96 : decode cX12_findBegins 96 = .ok (.iadd, 1) := by decide +kernel
theorem dX12_findBegins_97 : decode cX12_findBegins 97 = .ok (.iaload, 1) := by decide +kernel
theorem dX12_findBegins_98 : decode cX12_findBegins 98 = .ok (.aload_n 0, 1) := by decide +kernel
theorem dX12_findBegins_99 : decode cX12_findBegins 99 = .ok (.getfield 20, 3) := by decide +kernel
theorem dX12_findBegins_102 : decode cX12_findBegins 102 = .ok (.iload_n 3, 1) := by decide +kernel
theorem dX12_findBegins_103 : decode cX12_findBegins 103 = .ok (.iaload, 1) := by decide +kernel
theorem dX12_findBegins_104 : decode cX12_findBegins 104 = .ok (.isub, 1) := by decide +kernel
theorem dX12_findBegins_105 : decode cX12_findBegins 105 = .ok (.goto 5, 3) := by decide +kernel
theorem dX12_findBegins_108 : decode cX12_findBegins 108 = .ok (.ldc 107, 2) := by decide +kernel
theorem dX12_findBegins_110 : decode cX12_findBegins 110 = .ok (.istore 5, 2) := by decide +kernel
theorem dX12_findBegins_112 : decode cX12_findBegins 112 = .ok (.iload 4, 2) := by decide +kernel
theorem dX12_findBegins_114 : decode cX12_findBegins 114 = .ok (.ifCond .eq 23, 3) := by decide +kernel
theorem dX12_findBegins_117 : decode cX12_findBegins 117 = .ok (.aload_n 0, 1) := by decide +kernel
theorem dX12_findBegins_118 : decode cX12_findBegins 118 = .ok (.getfield 26, 3) := by decide +kernel
theorem dX12_findBegins_121 : decode cX12_findBegins 121 = .ok (.iconst 5, 1) := by decide +kernel
theorem dX12_findBegins_122 : decode cX12_findBegins 122 = .ok (.iload_n 2, 1) := by decide +kernel
theorem dX12_findBegins_123 : decode cX12_findBegins 123 = .ok (.imul, 1) := by decide +kernel
theorem dX12_findBegins_124 : decode cX12_findBegins 124 = .ok (.iconst 2, 1) := by decide +kernel
theorem dX12_findBegins_125 : decode cX12_findBegins 125 = .ok (.iadd, 1) := by decide +kernel
theorem dX12_findBegins_126 : decode cX12_findBegins 126 = .ok (.iaload, 1) := by decide +kernel
theorem dX12_findBegins_127 : decode cX12_findBegins 127 = .ok (.aload_n 0, 1) := by decide +kernel
theorem dX12_findBegins_128 : decode cX12_findBegins 128 = .ok (.getfield 20, 3) := by decide +kernel
theorem dX12_findBegins_131 : decode cX12_findBegins 131 = .ok (.iload_n 3, 1) := by decide +kernel
theorem dX12_findBegins_132 : decode cX12_findBegins 132 = .ok (.iaload, 1) := by decide +kernel
theorem dX12_findBegins_133 : decode cX12_findBegins 133 = .ok (.isub, 1) := by decide +kernel
theorem dX12_findBegins_134 : decode cX12_findBegins 134 = .ok (.goto 5, 3) := by decide +kernel
theorem dX12_findBegins_137 : decode cX12_findBegins 137 = .ok (.ldc 122, 2) := by decide +kernel
theorem dX12_findBegins_139 : decode cX12_findBegins 139 = .ok (.istore 6, 2) := by decide +kernel
theorem dX12_findBegins_141 : decode cX12_findBegins 141 = .ok (.aload_n 0, 1) := by decide +kernel
theorem dX12_findBegins_142 : decode cX12_findBegins 142 = .ok (.iload 5, 2) := by decide +kernel
theorem dX12_findBegins_144 : decode cX12_findBegins 144 = .ok (.aload_n 0, 1) := by decide +kernel
theorem dX12_findBegins_145 : decode cX12_findBegins 145 = .ok (.getfield 123, 3) := by decide +kernel
theorem dX12_findBegins_148 : decode cX12_findBegins 148 = .ok (.if_icmp .le 8, 3) := by decide +kernel
theorem dX12_findBegins_151 : decode cX12_findBegins 151 = .ok (.iload 5, 2) := by decide +kernel
theorem dX12_findBegins_153 : decode cX12_findBegins 153 = .ok (.goto 7, 3) := by decide +kernel
theorem dX12_findBegins_156 : decode cX12_findBegins 156 = .ok (.aload_n 0, 1) := by decide +kernel
theorem dX12_findBegins_157 : decode cX12_findBegins 157 = .ok (.getfield 123, 3) := by decide +kernel
theorem dX12_findBegins_160 : decode cX12_findBegins 160 = .ok (.putfield 123, 3) := by decide +kernel
theorem dX12_findBegins_163 : decode cX12_findBegins 163 = .ok (.aload_n 0, 1) := by decide +kernel
theorem dX12_findBegins_164 : decode cX12_findBegins 164 = .ok (.iload 6, 2) := by decide +kernel
theorem dX12_findBegins_166 : decode cX12_findBegins 166 = .ok (.aload_n 0, 1) := by decide +kernel
theorem dX12_findBegins_167 : decode cX12_findBegins 167 = .ok (.getfield 126, 3) := by decide +kernel
theorem dX12_findBegins_170 : decode cX12_findBegins 170 = .ok (.if_icmp .ge 8, 3) := by decide +kernel
theorem dX12_findBegins_173 : decode cX12_findBegins 173 = .ok (.iload 6, 2) := by decide +kernel
theorem dX12_findBegins_175 : decode cX12_findBegins 175 = .ok (.goto 7, 3) := by decide +kernel
theorem dX12_findBegins_178 : decode cX12_findBegins 178 = .ok (.aload_n 0, 1) := by decide +kernel
theorem dX12_findBegins_179 : decode cX12_findBegins 179 = .ok (.getfield 126, 3) := by decide +kernel
theorem dX12_findBegins_182 : decode cX12_findBegins 182 = .ok (.putfield 126, 3) := by decide +kernel
theorem dX12_findBegins_185 : decode cX12_findBegins 185 = .ok (.iinc 2 1, 3) := by decide +kernel
theorem dX12_findBegins_188 : decode cX12_findBegins 188 = .ok (.goto (-174), 3) := by decide +kernel
theorem dX12_findBegins_191 : decode cX12_findBegins 191 = .ok (.return_, 1) := by decide +kernel
set_option maxRecDepth 20000 in
theorem ggX12_beginsOf_X12_findBegins : GoodIn wsX12_beginsOf wsX12_findBegins := goodIn_r _ [7, 8, 2, 9, 1, 10, 11, 12, 13, 14, 15, 6, 16, 17, 18, 19, 20, 21, 22, 23, 24, 25, 26, 27, 28, 29, 30, 31, 32, 33, 34, 35, 36, 37, 38, 39, 40, 41, 42, 43, 44, 45, 46, 47, 48, 49, 50] (by decide +kernel) (by decide +kernel)
set_option maxRecDepth 20000 in
theorem gX12_beginsOf_X12_findBegins : GoodIn wsX12_beginsOf (wsV RX12 129 RX12 yX12_findBegins wsX12_findBegins) := goodIn_app (goodIn_of _ (by decide +kernel)) ggX12_beginsOf_X12_findBegins
theorem dX12_beginsOf_0 : decode cX12_beginsOf 0 = .ok (.aload_n 0, 1) := by decide +kernel
theorem dX12_beginsOf_1 : decode cX12_beginsOf 1 = .ok (.iload_n 1, 1) := by decide +kernel
theorem dX12_beginsOf_2 : decode cX12_beginsOf 2 = .ok (.invokevirtual 129, 3) := by decide +kernel
theorem dX12_beginsOf_5 : decode cX12_beginsOf 5 = .ok (.aload_n 0, 1) := by decide +kernel
theorem dX12_beginsOf_6 : decode cX12_beginsOf 6 = .ok (.getfield 126, 3) := by decide +kernel
theorem dX12_beginsOf_9 : decode cX12_beginsOf 9 = .ok (.aload_n 0, 1) := by decide +kernel
theorem dX12_beginsOf_10 : decode cX12_beginsOf 10 = .ok (.getfield 123, 3) := by decide +kernel
theorem dX12_beginsOf_13 : decode cX12_beginsOf 13 = .ok (.if_icmp .ge 7, 3) := by decide +kernel
theorem dX12_beginsOf_16 : decode cX12_beginsOf 16 = .ok (.iconst 0, 1) := by decide +kernel
theorem dX12_beginsOf_17 : decode cX12_beginsOf 17 = .ok (.goto 14, 3) := by decide +kernel
theorem dX12_beginsOf_20 : decode cX12_beginsOf 20 = .ok (.aload_n 0, 1) := by decide +kernel
theorem dX12_beginsOf_21 : decode cX12_beginsOf 21 = .ok (.getfield 126, 3) := by decide +kernel
theorem dX12_beginsOf_24 : decode cX12_beginsOf 24 = .ok (.aload_n 0, 1) := by decide +kernel
theorem dX12_beginsOf_25 : decode cX12_beginsOf 25 = .ok (.getfield 123, 3) := by decide +kernel
theorem dX12_beginsOf_28 : decode cX12_beginsOf 28 = .ok (.isub, 1) := by decide +kernel
theorem dX12_beginsOf_29 : decode cX12_beginsOf 29 = .ok (.iconst 1, 1) := by decide +kernel
theorem dX12_beginsOf_30 : decode cX12_beginsOf 30 = .ok (.iadd, 1) := by decide +kernel
theorem dX12_beginsOf_31 : decode cX12_beginsOf 31 = .ok (.ireturn, 1) := by decide +kernel
set_option maxRecDepth 20000 in
theorem ggX12_waysOf_X12_begin : GoodIn wsX12_waysOf wsX12_begin := goodIn_r _ [5, 6, 7, 8, 9, 10, 11, 4, 12, 13, 14, 15, 16, 17, 38, 39, 40, 41, 42, 43, 44, 45, 46, 47, 48, 49, 50, 51, 52, 53, 54, 55, 56, 57, 58, 59, 60, 61, 62, 63, 64, 65, 66] (by decide +kernel) (by decide +kernel)
set_option maxRecDepth 20000 in
theorem gX12_waysOf_X12_begin : GoodIn wsX12_waysOf (wsV RX12 111 RX12 yX12_begin wsX12_begin) := goodIn_app (goodIn_of _ (by decide +kernel)) ggX12_waysOf_X12_begin
set_option maxRecDepth 20000 in
theorem ggX12_waysOf_X12_beginsOf : GoodIn wsX12_waysOf wsX12_beginsOf := goodIn_r _ [21, 22, 23, 24, 25, 26, 4, 27, 28, 8, 29, 30, 6, 31, 32, 33, 34, 17, 7, 35, 36, 37, 38, 39, 40, 41, 42, 43, 44, 45, 46, 47, 48, 49, 50, 51, 52, 53, 54, 55, 56, 57, 58, 59, 60, 61, 62, 63, 64, 65, 66] (by decide +kernel) (by decide +kernel)
set_option maxRecDepth 20000 in
theorem gX12_waysOf_X12_beginsOf : GoodIn wsX12_waysOf (wsV RX12 132 RX12 yX12_beginsOf wsX12_beginsOf) := goodIn_app (goodIn_of _ (by decide +kernel)) ggX12_waysOf_X12_beginsOf
theorem dX12_waysOf_0 : decode cX12_waysOf 0 = .ok (.aload_n 0, 1) := by decide +kernel
theorem dX12_waysOf_1 : decode cX12_waysOf 1 = .ok (.iload_n 1, 1) := by decide +kernel
theorem dX12_waysOf_2 : decode cX12_waysOf 2 = .ok (.invokevirtual 111, 3) := by decide +kernel
theorem dX12_waysOf_5 : decode cX12_waysOf 5 = .ok (.iconst 0, 1) := by decide +kernel
theorem dX12_waysOf_6 : decode cX12_waysOf 6 = .ok (.istore_n 2, 1) := by decide +kernel
theorem dX12_waysOf_7 : decode cX12_waysOf 7 = .ok (.iconst 1, 1) := by decide +kernel
theorem dX12_waysOf_8 : decode cX12_waysOf 8 = .ok (.istore_n 3, 1) := by decide +kernel
theorem dX12_waysOf_9 : decode cX12_waysOf 9 = .ok (.iload_n 3, 1) := by decide +kernel
theorem dX12_waysOf_10 : decode cX12_waysOf 10 = .ok (.bipush 100, 2) := by decide +kernel
theorem dX12_waysOf_12 : decode cX12_waysOf 12 = .ok (.if_icmp .ge 17, 3) := by decide +kernel
theorem dX12_waysOf_15 : decode cX12_waysOf 15 = .ok (.iload_n 2, 1) := by decide +kernel
theorem dX12_waysOf_16 : decode cX12_waysOf 16 = .ok (.aload_n 0, 1) := by decide +kernel
theorem dX12_waysOf_17 : decode cX12_waysOf 17 = .ok (.iload_n 3, 1) := by decide +kernel
theorem dX12_waysOf_18 : decode cX12_waysOf 18 = .ok (.invokevirtual 132, 3) := by decide +kernel
theorem dX12_waysOf_21 : decode cX12_waysOf 21 = .ok (.iadd, 1) := by decide +kernel
theorem dX12_waysOf_22 : decode cX12_waysOf 22 = .ok (.istore_n 2, 1) := by decide +kernel
theorem dX12_waysOf_23 : decode cX12_waysOf 23 = .ok (.iinc 3 1, 3) := by decide +kernel
theorem dX12_waysOf_26 : decode cX12_waysOf 26 = .ok (.goto (-17), 3) := by decide +kernel
theorem dX12_waysOf_29 : decode cX12_waysOf 29 = .ok (.iload_n 2, 1) := by decide +kernel
theorem dX12_waysOf_30 : decode cX12_waysOf 30 = .ok (.ireturn, 1) := by decide +kernel
set_option maxRecDepth 20000 in
theorem ggX12_begins_X12_isSea : GoodIn wsX12_begins wsX12_isSea := goodIn_r _ [6, 7, 8, 9, 5, 10, 11, 12, 13, 45, 46, 47, 48, 49, 50, 51, 52, 53, 54, 55, 56, 57, 58, 59, 60, 61, 62, 63, 64, 65, 66, 67, 68, 69, 70, 71, 72, 73] (by decide +kernel) (by decide +kernel)
set_option maxRecDepth 20000 in
theorem gX12_begins_X12_isSea : GoodIn wsX12_begins (wsV RX12 119 RX12 yX12_isSea wsX12_isSea) := goodIn_app (goodIn_of _ (by decide +kernel)) ggX12_begins_X12_isSea
set_option maxRecDepth 20000 in
theorem ggX12_begins_X12_in : GoodIn wsX12_begins wsX12_in := goodIn_r _ [13] (by decide +kernel) (by decide +kernel)
set_option maxRecDepth 20000 in
theorem gX12_begins_X12_in : GoodIn wsX12_begins (va_wsS RX12 86 yX12_in wsX12_in) := goodIn_app (goodIn_of _ (by decide +kernel)) ggX12_begins_X12_in
set_option maxRecDepth 20000 in
theorem ggX12_begins_X12_begin : GoodIn wsX12_begins wsX12_begin := goodIn_r _ [17, 18, 7, 19, 20, 21, 22, 5, 23, 24, 25, 26, 27, 28, 45, 46, 47, 48, 49, 50, 51, 52, 53, 54, 55, 56, 57, 58, 59, 60, 61, 62, 63, 64, 65, 66, 67, 68, 69, 70, 71, 72, 73] (by decide +kernel) (by decide +kernel)
set_option maxRecDepth 20000 in
theorem gX12_begins_X12_begin : GoodIn wsX12_begins (wsV RX12 111 RX12 yX12_begin wsX12_begin) := goodIn_app (goodIn_of _ (by decide +kernel)) ggX12_begins_X12_begin
set_option maxRecDepth 20000 in
theorem ggX12_begins_X12_beginsOf : GoodIn wsX12_begins wsX12_beginsOf := goodIn_r _ [32, 33, 34, 35, 36, 37, 5, 38, 39, 19, 1, 40, 18, 41, 42, 43, 44, 28, 7, 11, 12, 13, 45, 46, 47, 48, 49, 50, 51, 52, 53, 54, 55, 56, 57, 58, 59, 60, 61, 62, 63, 64, 65, 66, 67, 68, 69, 70, 71, 72, 73] (by decide +kernel) (by decide +kernel)
set_option maxRecDepth 20000 in
theorem gX12_begins_X12_beginsOf : GoodIn wsX12_begins (wsV RX12 132 RX12 yX12_beginsOf wsX12_beginsOf) := goodIn_app (goodIn_of _ (by decide +kernel)) ggX12_begins_X12_beginsOf
theorem dX12_begins_0 : decode cX12_begins 0 = .ok (.aload_n 0, 1) := by decide +kernel
theorem dX12_begins_1 : decode cX12_begins 1 = .ok (.iload_n 1, 1) := by decide +kernel
theorem dX12_begins_2 : decode cX12_begins 2 = .ok (.invokevirtual 119, 3) := by decide +kernel
theorem dX12_begins_5 : decode cX12_begins 5 = .ok (.ifCond .eq 13, 3) := by decide +kernel
theorem dX12_begins_8 : decode cX12_begins 8 = .ok (.iload_n 2, 1) := by decide +kernel
theorem dX12_begins_9 : decode cX12_begins 9 = .ok (.iconst 1, 1) := by decide +kernel
theorem dX12_begins_10 : decode cX12_begins 10 = .ok (.bipush 99, 2) := by decide +kernel
theorem dX12_begins_12 : decode cX12_begins 12 = .ok (.invokestatic 86, 3) := by decide +kernel
theorem dX12_begins_15 : decode cX12_begins 15 = .ok (.ifCond .ne 5, 3) := by decide +kernel
theorem dX12_begins_18 : decode cX12_begins 18 = .ok (.iconst (-1), 1) := by decide +kernel
theorem dX12_begins_19 : decode cX12_begins 19 = .ok (.ireturn, 1) := by decide +kernel
theorem dX12_begins_20 : decode cX12_begins 20 = .ok (.aload_n 0, 1) := by decide +kernel
theorem dX12_begins_21 : decode cX12_begins 21 = .ok (.iload_n 1, 1) := by decide +kernel
theorem dX12_begins_22 : decode cX12_begins 22 = .ok (.invokevirtual 111, 3) := by decide +kernel
theorem dX12_begins_25 : decode cX12_begins 25 = .ok (.aload_n 0, 1) := by decide +kernel
theorem dX12_begins_26 : decode cX12_begins 26 = .ok (.getfield 23, 3) := by decide +kernel
theorem dX12_begins_29 : decode cX12_begins 29 = .ok (.iconst 0, 1) := by decide +kernel
theorem dX12_begins_30 : decode cX12_begins 30 = .ok (.iaload, 1) := by decide +kernel
theorem dX12_begins_31 : decode cX12_begins 31 = .ok (.ifCond .ne 8, 3) := by decide +kernel
theorem dX12_begins_34 : decode cX12_begins 34 = .ok (.bipush (-9), 2) := by decide +kernel
theorem dX12_begins_36 : decode cX12_begins 36 = .ok (.goto 8, 3) := by decide +kernel
theorem dX12_begins_39 : decode cX12_begins 39 = .ok (.aload_n 0, 1) := by decide +kernel
theorem dX12_begins_40 : decode cX12_begins 40 = .ok (.iload_n 2, 1) := by decide +kernel
theorem dX12_begins_41 : decode cX12_begins 41 = .ok (.invokevirtual 132, 3) := by decide +kernel
theorem dX12_begins_44 : decode cX12_begins 44 = .ok (.ireturn, 1) := by decide +kernel
set_option maxRecDepth 20000 in
theorem ggX12_ways_X12_isSea : GoodIn wsX12_ways wsX12_isSea := goodIn_r _ [6, 7, 8, 9, 5, 10, 11, 12, 13, 49, 50, 51, 52, 53, 54, 55, 56, 57, 58, 59, 60, 61, 62, 63, 64, 65, 66, 67, 68, 69, 70, 71, 72, 73, 74, 75, 76, 77] (by decide +kernel) (by decide +kernel)
set_option maxRecDepth 20000 in
theorem gX12_ways_X12_isSea : GoodIn wsX12_ways (wsV RX12 119 RX12 yX12_isSea wsX12_isSea) := goodIn_app (goodIn_of _ (by decide +kernel)) ggX12_ways_X12_isSea
set_option maxRecDepth 20000 in
theorem ggX12_ways_X12_waysOf : GoodIn wsX12_ways wsX12_waysOf := goodIn_r _ [17, 18, 19, 20, 5, 21, 22, 7, 23, 24, 25, 26, 27, 28, 29, 30, 31, 32, 33, 34, 35, 36, 37, 38, 39, 40, 41, 42, 43, 1, 44, 45, 46, 47, 48, 11, 12, 13, 49, 50, 51, 52, 53, 54, 55, 56, 57, 58, 59, 60, 61, 62, 63, 64, 65, 66, 67, 68, 69, 70, 71, 72, 73, 74, 75, 76, 77] (by decide +kernel) (by decide +kernel)
set_option maxRecDepth 20000 in
theorem gX12_ways_X12_waysOf : GoodIn wsX12_ways (wsV RX12 135 RX12 yX12_waysOf wsX12_waysOf) := goodIn_app (goodIn_of _ (by decide +kernel)) ggX12_ways_X12_waysOf
theorem dX12_ways_0 : decode cX12_ways 0 = .ok (.iload_n 1, 1) := by decide +kernel
theorem dX12_ways_1 : decode cX12_ways 1 = .ok (.iconst (-1), 1) := by decide +kernel
theorem dX12_ways_2 : decode cX12_ways 2 = .ok (.if_icmp .eq 13, 3) := by decide +kernel
theorem dX12_ways_5 : decode cX12_ways 5 = .ok (.aload_n 0, 1) := by decide +kernel
theorem dX12_ways_6 : decode cX12_ways 6 = .ok (.iload_n 1, 1) := by decide +kernel
theorem dX12_ways_7 : decode cX12_ways 7 = .ok (.invokevirtual 119, 3) := by decide +kernel
theorem dX12_ways_10 : decode cX12_ways 10 = .ok (.ifCond .ne 5, 3) := by decide +kernel
theorem dX12_ways_13 : decode cX12_ways 13 = .ok (.iconst (-1), 1) := by decide +kernel
theorem dX12_ways_14 : decode cX12_ways 14 = .ok (.ireturn, 1) := by decide +kernel
theorem dX12_ways_15 : decode cX12_ways 15 = .ok (.aload_n 0, 1) := by decide +kernel
theorem dX12_ways_16 : decode cX12_ways 16 = .ok (.getfield 23, 3) := by decide +kernel
theorem dX12_ways_19 : decode cX12_ways 19 = .ok (.iconst 0, 1) := by decide +kernel
theorem dX12_ways_20 : decode cX12_ways 20 = .ok (.iaload, 1) := by decide +kernel
theorem dX12_ways_21 : decode cX12_ways 21 = .ok (.ifCond .ne 6, 3) := by decide +kernel
theorem dX12_ways_24 : decode cX12_ways 24 = .ok (.bipush (-9), 2) := by decide +kernel
theorem dX12_ways_26 : decode cX12_ways 26 = .ok (.ireturn, 1) := by decide +kernel
theorem dX12_ways_27 : decode cX12_ways 27 = .ok (.iconst 0, 1) := by decide +kernel
theorem dX12_ways_28 : decode cX12_ways 28 = .ok (.istore_n 2, 1) := by decide +kernel
theorem dX12_ways_29 : decode cX12_ways 29 = .ok (.iconst 0, 1) := by decide +kernel
theorem dX12_ways_30 : decode cX12_ways 30 = .ok (.istore_n 3, 1) := by decide +kernel
theorem dX12_ways_31 : decode cX12_ways 31 = .ok (.iload_n 3, 1) := by decide +kernel
theorem dX12_ways_32 : decode cX12_ways 32 = .ok (.bipush 48, 2) := by decide +kernel
theorem dX12_ways_34 : decode cX12_ways 34 = .ok (.if_icmp .ge 39, 3) := by decide +kernel
theorem dX12_ways_37 : decode cX12_ways 37 = .ok (.iload_n 2, 1) := by decide +kernel
theorem dX12_ways_38 : decode cX12_ways 38 = .ok (.aload_n 0, 1) := by decide +kernel
theorem dX12_ways_39 : decode cX12_ways 39 = .ok (.iload_n 3, 1) := by decide +kernel
theorem dX12_ways_40 : decode cX12_ways 40 = .ok (.invokevirtual 119, 3) := by decide +kernel
theorem dX12_ways_43 : decode cX12_ways 43 = .ok (.ifCond .eq 21, 3) := by decide +kernel
theorem dX12_ways_46 : decode cX12_ways 46 = .ok (.iload_n 1, 1) := by decide +kernel
theorem dX12_ways_47 : decode cX12_ways 47 = .ok (.iconst (-1), 1) := by decide +kernel
theorem dX12_ways_48 : decode cX12_ways 48 = .ok (.if_icmp .eq 8, 3) := by decide +kernel
theorem dX12_ways_51 : decode cX12_ways 51 = .ok (.iload_n 1, 1) := by decide +kernel
theorem dX12_ways_52 : decode cX12_ways 52 = .ok (.iload_n 3, 1) := by decide +kernel
theorem dX12_ways_53 : decode cX12_ways 53 = .ok (.if_icmp .ne 11, 3) := by decide +kernel
theorem dX12_ways_56 : decode cX12_ways 56 = .ok (.aload_n 0, 1) := by decide +kernel
theorem dX12_ways_57 : decode cX12_ways 57 = .ok (.iload_n 3, 1) := by decide +kernel
theorem dX12_ways_58 : decode cX12_ways 58 = .ok (.invokevirtual 135, 3) := by decide +kernel
theorem dX12_ways_61 : decode cX12_ways 61 = .ok (.goto 4, 3) := by decide +kernel
theorem dX12_ways_64 : decode cX12_ways 64 = .ok (.iconst 0, 1) := by decide +kernel
theorem dX12_ways_65 : decode cX12_ways 65 = .ok (.iadd, 1) := by decide +kernel
theorem dX12_ways_66 : decode cX12_ways 66 = .ok (.istore_n 2, 1) := by decide +kernel
theorem dX12_ways_67 : decode cX12_ways 67 = .ok (.iinc 3 1, 3) := by decide +kernel
theorem dX12_ways_70 : decode cX12_ways 70 = .ok (.goto (-39), 3) := by decide +kernel
theorem dX12_ways_73 : decode cX12_ways 73 = .ok (.iload_n 2, 1) := by decide +kernel
theorem dX12_ways_74 : decode cX12_ways 74 = .ok (.ireturn, 1) := by decide +kernel
set_option maxRecDepth 20000 in
theorem ggX12_whence_X12_in : GoodIn wsX12_whence wsX12_in := goodIn_r _ [8] (by decide +kernel) (by decide +kernel)
set_option maxRecDepth 20000 in
theorem gX12_whence_X12_in : GoodIn wsX12_whence (va_wsS RX12 86 yX12_in wsX12_in) := goodIn_app (goodIn_of _ (by decide +kernel)) ggX12_whence_X12_in
set_option maxRecDepth 20000 in
theorem ggX12_whence_X12_isSea : GoodIn wsX12_whence wsX12_isSea := goodIn_r _ [12, 13, 14, 15, 7, 16, 5, 6, 8, 49, 50, 51, 52, 53, 54, 55, 56, 57, 58, 59, 60, 61, 62, 63, 64, 65, 66, 67, 68, 69, 70, 71, 72, 73, 74, 75, 76, 77] (by decide +kernel) (by decide +kernel)
set_option maxRecDepth 20000 in
theorem gX12_whence_X12_isSea : GoodIn wsX12_whence (wsV RX12 119 RX12 yX12_isSea wsX12_isSea) := goodIn_app (goodIn_of _ (by decide +kernel)) ggX12_whence_X12_isSea
set_option maxRecDepth 20000 in
theorem ggX12_whence_X12_waysOf : GoodIn wsX12_whence wsX12_waysOf := goodIn_r _ [20, 21, 22, 23, 7, 24, 25, 13, 26, 27, 28, 29, 30, 31, 32, 33, 34, 35, 36, 37, 38, 39, 4, 3, 40, 41, 42, 43, 2, 1, 44, 45, 46, 47, 48, 5, 6, 8, 49, 50, 51, 52, 53, 54, 55, 56, 57, 58, 59, 60, 61, 62, 63, 64, 65, 66, 67, 68, 69, 70, 71, 72, 73, 74, 75, 76, 77] (by decide +kernel) (by decide +kernel)
set_option maxRecDepth 20000 in
theorem gX12_whence_X12_waysOf : GoodIn wsX12_whence (wsV RX12 135 RX12 yX12_waysOf wsX12_waysOf) := goodIn_app (goodIn_of _ (by decide +kernel)) ggX12_whence_X12_waysOf
set_option maxRecDepth 20000 in
theorem ggX12_whence_X12_begin : GoodIn wsX12_whence wsX12_begin := goodIn_r _ [24, 25, 13, 26, 27, 28, 29, 7, 30, 31, 32, 33, 34, 35, 49, 50, 51, 52, 53, 54, 55, 56, 57, 58, 59, 60, 61, 62, 63, 64, 65, 66, 67, 68, 69, 70, 71, 72, 73, 74, 75, 76, 77] (by decide +kernel) (by decide +kernel)
set_option maxRecDepth 20000 in
theorem gX12_whence_X12_begin : GoodIn wsX12_whence (wsV RX12 111 RX12 yX12_begin wsX12_begin) := goodIn_app (goodIn_of _ (by decide +kernel)) ggX12_whence_X12_begin
set_option maxRecDepth 20000 in
theorem ggX12_whence_X12_beginsOf : GoodIn wsX12_whence wsX12_beginsOf := goodIn_r _ [39, 4, 3, 40, 41, 42, 7, 43, 2, 26, 1, 44, 25, 45, 46, 47, 48, 35, 13, 5, 6, 8, 49, 50, 51, 52, 53, 54, 55, 56, 57, 58, 59, 60, 61, 62, 63, 64, 65, 66, 67, 68, 69, 70, 71, 72, 73, 74, 75, 76, 77] (by decide +kernel) (by decide +kernel)
set_option maxRecDepth 20000 in
theorem gX12_whence_X12_beginsOf : GoodIn wsX12_whence (wsV RX12 132 RX12 yX12_beginsOf wsX12_beginsOf) := goodIn_app (goodIn_of _ (by decide +kernel)) ggX12_whence_X12_beginsOf
theorem dX12_whence_0 : decode cX12_whence 0 = .ok (.iload_n 1, 1) := by decide +kernel
theorem dX12_whence_1 : decode cX12_whence 1 = .ok (.iconst 0, 1) := by decide +kernel
theorem dX12_whence_2 : decode cX12_whence 2 = .ok (.iconst 4, 1) := by decide +kernel
theorem dX12_whence_3 : decode cX12_whence 3 = .ok (.invokestatic 86, 3) := by decide +kernel
theorem dX12_whence_6 : decode cX12_whence 6 = .ok (.ifCond .eq 12, 3) := by decide +kernel
theorem dX12_whence_9 : decode cX12_whence 9 = .ok (.aload_n 0, 1) := by decide +kernel
theorem dX12_whence_10 : decode cX12_whence 10 = .ok (.getfield 23, 3) := by decide +kernel
theorem dX12_whence_13 : decode cX12_whence 13 = .ok (.iconst 0, 1) := by decide +kernel
theorem dX12_whence_14 : decode cX12_whence 14 = .ok (.iaload, 1) := by decide +kernel
theorem dX12_whence_15 : decode cX12_whence 15 = .ok (.ifCond .ne 6, 3) := by decide +kernel
theorem dX12_whence_18 : decode cX12_whence 18 = .ok (.ldc 122, 2) := by decide +kernel
theorem dX12_whence_20 : decode cX12_whence 20 = .ok (.ireturn, 1) := by decide +kernel
theorem dX12_whence_21 : decode cX12_whence 21 = .ok (.bipush (-9), 2) := by decide +kernel
theorem dX12_whence_23 : decode cX12_whence 23 = .ok (.istore_n 2, 1) := by decide +kernel
theorem dX12_whence_24 : decode cX12_whence 24 = .ok (.iconst 0, 1) := by decide +kernel
theorem dX12_whence_25 : decode cX12_whence 25 = .ok (.istore_n 3, 1) := by decide +kernel
theorem dX12_whence_26 : decode cX12_whence 26 = .ok (.iconst 0, 1) := by decide +kernel
theorem dX12_whence_27 : decode cX12_whence 27 = .ok (.istore 4, 2) := by decide +kernel
theorem dX12_whence_29 : decode cX12_whence 29 = .ok (.iload 4, 2) := by decide +kernel
theorem dX12_whence_31 : decode cX12_whence 31 = .ok (.bipush 48, 2) := by decide +kernel
theorem dX12_whence_33 : decode cX12_whence 33 = .ok (.if_icmp .ge 56, 3) := by decide +kernel
theorem dX12_whence_36 : decode cX12_whence 36 = .ok (.aload_n 0, 1) := by decide +kernel
theorem dX12_whence_37 : decode cX12_whence 37 = .ok (.iload 4, 2) := by decide +kernel
theorem dX12_whence_39 : decode cX12_whence 39 = .ok (.invokevirtual 119, 3) := by decide +kernel
theorem dX12_whence_42 : decode cX12_whence 42 = .ok (.ifCond .eq 12, 3) := by decide +kernel
theorem dX12_whence_45 : decode cX12_whence 45 = .ok (.aload_n 0, 1) := by decide +kernel
theorem dX12_whence_46 : decode cX12_whence 46 = .ok (.iload 4, 2) := by decide +kernel
theorem dX12_whence_48 : decode cX12_whence 48 = .ok (.invokevirtual 135, 3) := by decide +kernel
theorem dX12_whence_51 : decode cX12_whence 51 = .ok (.goto 4, 3) := by decide +kernel
theorem dX12_whence_54 : decode cX12_whence 54 = .ok (.iconst 0, 1) := by decide +kernel
theorem dX12_whence_55 : decode cX12_whence 55 = .ok (.istore 5, 2) := by decide +kernel
theorem dX12_whence_57 : decode cX12_whence 57 = .ok (.iload 5, 2) := by decide +kernel
theorem dX12_whence_59 : decode cX12_whence 59 = .ok (.iload_n 3, 1) := by decide +kernel
theorem dX12_whence_60 : decode cX12_whence 60 = .ok (.if_icmp .le 8, 3) := by decide +kernel
theorem dX12_whence_63 : decode cX12_whence 63 = .ok (.iload 4, 2) := by decide +kernel
theorem dX12_whence_65 : decode cX12_whence 65 = .ok (.goto 4, 3) := by decide +kernel
theorem dX12_whence_68 : decode cX12_whence 68 = .ok (.iload_n 2, 1) := by decide +kernel
theorem dX12_whence_69 : decode cX12_whence 69 = .ok (.istore_n 2, 1) := by decide +kernel
theorem dX12_whence_70 : decode cX12_whence 70 = .ok (.iload 5, 2) := by decide +kernel
theorem dX12_whence_72 : decode cX12_whence 72 = .ok (.iload_n 3, 1) := by decide +kernel
theorem dX12_whence_73 : decode cX12_whence 73 = .ok (.if_icmp .le 8, 3) := by decide +kernel
theorem dX12_whence_76 : decode cX12_whence 76 = .ok (.iload 5, 2) := by decide +kernel
theorem dX12_whence_78 : decode cX12_whence 78 = .ok (.goto 4, 3) := by decide +kernel
theorem dX12_whence_81 : decode cX12_whence 81 = .ok (.iload_n 3, 1) := by decide +kernel
theorem dX12_whence_82 : decode cX12_whence 82 = .ok (.istore_n 3, 1) := by decide +kernel
theorem dX12_whence_83 : decode cX12_whence 83 = .ok (.iinc 4 1, 3) := by decide +kernel
theorem dX12_whence_86 : decode cX12_whence 86 = .ok (.goto (-57), 3) := by decide +kernel
theorem dX12_whence_89 : decode cX12_whence 89 = .ok (.iload_n 2, 1) := by decide +kernel
theorem dX12_whence_90 : decode cX12_whence 90 = .ok (.bipush (-9), 2) := by decide +kernel
theorem dX12_whence_92 : decode cX12_whence 92 = .ok (.if_icmp .eq 7, 3) := by decide +kernel
theorem dX12_whence_95 : decode cX12_whence 95 = .ok (.iload_n 1, 1) := by decide +kernel
theorem dX12_whence_96 : decode cX12_whence 96 = .ok (.ifCond .ne 16, 3) := by decide +kernel
theorem dX12_whence_99 : decode cX12_whence 99 = .ok (.iload_n 2, 1) := by decide +kernel
theorem dX12_whence_100 : decode cX12_whence 100 = .ok (.bipush (-9), 2) := by decide +kernel
theorem dX12_whence_102 : decode cX12_whence 102 = .ok (.if_icmp .ne 8, 3) := by decide +kernel
theorem dX12_whence_105 : decode cX12_whence 105 = .ok (.ldc 122, 2) := by decide +kernel
theorem dX12_whence_107 : decode cX12_whence 107 = .ok (.goto 4, 3) := by decide +kernel
theorem dX12_whence_110 : decode cX12_whence 110 = .ok (.iload_n 2, 1) := by decide +kernel
theorem dX12_whence_111 : decode cX12_whence 111 = .ok (.ireturn, 1) := by decide +kernel
theorem dX12_whence_112 : decode cX12_whence 112 = .ok (.aload_n 0, 1) := by decide +kernel
theorem dX12_whence_113 : decode cX12_whence 113 = .ok (.iload_n 2, 1) := by decide +kernel
theorem dX12_whence_114 : decode cX12_whence 114 = .ok (.invokevirtual 111, 3) := by decide +kernel
theorem dX12_whence_117 : decode cX12_whence 117 = .ok (.bipush (-9), 2) := by decide +kernel
theorem dX12_whence_119 : decode cX12_whence 119 = .ok (.istore 4, 2) := by decide +kernel
theorem dX12_whence_121 : decode cX12_whence 121 = .ok (.bipush (-9), 2) := by decide +kernel
theorem dX12_whence_123 : decode cX12_whence 123 = .ok (.istore 5, 2) := by decide +kernel
theorem dX12_whence_125 : decode cX12_whence 125 = .ok (.iconst 0, 1) := by decide +kernel
theorem dX12_whence_126 : decode cX12_whence 126 = .ok (.istore 6, 2) := by decide +kernel
theorem dX12_whence_128 : decode cX12_whence 128 = .ok (.iconst 0, 1) := by decide +kernel
theorem dX12_whence_129 : decode cX12_whence 129 = .ok (.istore 7, 2) := by decide +kernel
theorem dX12_whence_131 : decode cX12_whence 131 = .ok (.iconst 1, 1) := by decide +kernel
theorem dX12_whence_132 : decode cX12_whence 132 = .ok (.istore 8, 2) := by decide +kernel
theorem dX12_whence_134 : decode cX12_whence 134 = .ok (.iload 8, 2) := by decide +kernel
theorem dX12_whence_136 : decode cX12_whence 136 = .ok (.bipush 100, 2) := by decide +kernel
theorem dX12_whence_138 : decode cX12_whence 138 = .ok (.if_icmp .ge 92, 3) := by decide +kernel
theorem dX12_whence_141 : decode cX12_whence 141 = .ok (.aload_n 0, 1) := by decide +kernel
theorem dX12_whence_142 : decode cX12_whence 142 = .ok (.iload 8, 2) := by decide +kernel
theorem dX12_whence_144 : decode cX12_whence 144 = .ok (.invokevirtual 132, 3) := by decide +kernel
theorem dX12_whence_147 : decode cX12_whence 147 = .ok (.ifCond .le 77, 3) := by decide +kernel
theorem dX12_whence_150 : decode cX12_whence 150 = .ok (.iload 4, 2) := by decide +kernel
theorem dX12_whence_152 : decode cX12_whence 152 = .ok (.bipush (-9), 2) := by decide +kernel
theorem dX12_whence_154 : decode cX12_whence 154 = .ok (.if_icmp .eq 12, 3) := by decide +kernel
theorem dX12_whence_157 : decode cX12_whence 157 = .ok (.aload_n 0, 1) := by decide +kernel
theorem dX12_whence_158 : decode cX12_whence 158 = .ok (.getfield 123, 3) := by decide +kernel
theorem dX12_whence_161 : decode cX12_whence 161 = .ok (.iload 6, 2) := by decide +kernel
theorem dX12_whence_163 : decode cX12_whence 163 = .ok (.if_icmp .ge 10, 3) := by decide +kernel
theorem dX12_whence_166 : decode cX12_whence 166 = .ok (.aload_n 0, 1) := by decide +kernel
theorem dX12_whence_167 : decode cX12_whence 167 = .ok (.getfield 123, 3) := by decide +kernel
theorem dX12_whence_170 : decode cX12_whence 170 = .ok (.goto 5, 3) := by decide +kernel
theorem dX12_whence_173 : decode cX12_whence 173 = .ok (.iload 6, 2) := by decide +kernel
theorem dX12_whence_175 : decode cX12_whence 175 = .ok (.istore 6, 2) := by decide +kernel
theorem dX12_whence_177 : decode cX12_whence 177 = .ok (.iload 4, 2) := by decide +kernel
theorem dX12_whence_179 : decode cX12_whence 179 = .ok (.bipush (-9), 2) := by decide +kernel
theorem dX12_whence_181 : decode cX12_whence 181 = .ok (.if_icmp .eq 12, 3) := by decide +kernel
theorem dX12_whence_184 : decode cX12_whence 184 = .ok (.aload_n 0, 1) := by decide +kernel
theorem dX12_whence_185 : decode cX12_whence 185 = .ok (.getfield 126, 3) := by decide +kernel
theorem dX12_whence_188 : decode cX12_whence 188 = .ok (.iload 7, 2) := by decide +kernel
theorem dX12_whence_190 : decode cX12_whence 190 = .ok (.if_icmp .le 10, 3) := by decide +kernel
theorem dX12_whence_193 : decode cX12_whence 193 = .ok (.aload_n 0, 1) := by decide +kernel
theorem dX12_whence_194 : decode cX12_whence 194 = .ok (.getfield 126, 3) := by decide +kernel
theorem dX12_whence_197 : decode cX12_whence 197 = .ok (.goto 5, 3) := by decide +kernel
theorem dX12_whence_200 : decode cX12_whence 200 = .ok (.iload 7, 2) := by decide +kernel
theorem dX12_whence_202 : decode cX12_whence 202 = .ok (.istore 7, 2) := by decide +kernel
theorem dX12_whence_204 : decode cX12_whence 204 = .ok (.iload 4, 2) := by decide +kernel
theorem dX12_whence_206 : decode cX12_whence 206 = .ok (.bipush (-9), 2) := by decide +kernel
theorem dX12_whence_208 : decode cX12_whence 208 = .ok (.if_icmp .ne 8, 3) := by decide +kernel
theorem dX12_whence_211 : decode cX12_whence 211 = .ok (.iload 8, 2) := by decide +kernel
theorem dX12_whence_213 : decode cX12_whence 213 = .ok (.goto 5, 3) := by decide +kernel
theorem dX12_whence_216 : decode cX12_whence 216 = .ok (.iload 4, 2) := by decide +kernel
theorem dX12_whence_218 : decode cX12_whence 218 = .ok (.istore 4, 2) := by decide +kernel
theorem dX12_whence_220 : decode cX12_whence 220 = .ok (.iload 8, 2) := by decide +kernel
theorem dX12_whence_222 : decode cX12_whence 222 = .ok (.istore 5, 2) := by decide +kernel
theorem dX12_whence_224 : decode cX12_whence 224 = .ok (.iinc 8 1, 3) := by decide +kernel
theorem dX12_whence_227 : decode cX12_whence 227 = .ok (.goto (-93), 3) := by decide +kernel
theorem dX12_whence_230 : decode cX12_whence 230 = .ok (.iload_n 1, 1) := by decide +kernel
theorem dX12_whence_231 : decode cX12_whence 231 = .ok (.iconst 1, 1) := by decide +kernel
theorem dX12_whence_232 : decode cX12_whence 232 = .ok (.if_icmp .ne 8, 3) := by decide +kernel
theorem dX12_whence_235 : decode cX12_whence 235 = .ok (.iload 4, 2) := by decide +kernel
theorem dX12_whence_237 : decode cX12_whence 237 = .ok (.goto 25, 3) := by decide +kernel
theorem dX12_whence_240 : decode cX12_whence 240 = .ok (.iload_n 1, 1) := by decide +kernel
theorem dX12_whence_241 : decode cX12_whence 241 = .ok (.iconst 2, 1) := by decide +kernel
theorem dX12_whence_242 : decode cX12_whence 242 = .ok (.if_icmp .ne 8, 3) := by decide +kernel
theorem dX12_whence_245 : decode cX12_whence 245 = .ok (.iload 5, 2) := by decide +kernel
theorem dX12_whence_247 : decode cX12_whence 247 = .ok (.goto 15, 3) := by decide +kernel
theorem dX12_whence_250 : decode cX12_whence 250 = .ok (.iload_n 1, 1) := by decide +kernel
theorem dX12_whence_251 : decode cX12_whence 251 = .ok (.iconst 3, 1) := by decide +kernel
theorem dX12_whence_252 : decode cX12_whence 252 = .ok (.if_icmp .ne 8, 3) := by decide +kernel
theorem dX12_whence_255 : decode cX12_whence 255 = .ok (.iload 6, 2) := by decide +kernel
theorem dX12_whence_257 : decode cX12_whence 257 = .ok (.goto 5, 3) := by decide +kernel
theorem dX12_whence_260 : decode cX12_whence 260 = .ok (.iload 7, 2) := by decide +kernel
theorem dX12_whence_262 : decode cX12_whence 262 = .ok (.ireturn, 1) := by decide +kernel
set_option maxRecDepth 20000 in
theorem ggX12_isDigit_X12_in : GoodIn wsX12_isDigit wsX12_in := goodIn_r _ [4] (by decide +kernel) (by decide +kernel)
set_option maxRecDepth 20000 in
theorem gX12_isDigit_X12_in : GoodIn wsX12_isDigit (va_wsS RX12 86 yX12_in wsX12_in) := goodIn_app (goodIn_of _ (by decide +kernel)) ggX12_isDigit_X12_in
theorem dX12_isDigit_0 : decode cX12_isDigit 0 = .ok (.iload_n 0, 1) := by decide +kernel
theorem dX12_isDigit_1 : decode cX12_isDigit 1 = .ok (.bipush 48, 2) := by decide +kernel
theorem dX12_isDigit_3 : decode cX12_isDigit 3 = .ok (.bipush 57, 2) := by decide +kernel
theorem dX12_isDigit_5 : decode cX12_isDigit 5 = .ok (.invokestatic 86, 3) := by decide +kernel
theorem dX12_isDigit_8 : decode cX12_isDigit 8 = .ok (.ireturn, 1) := by decide +kernel
set_option maxRecDepth 20000 in
theorem ggX12_calendar_X12_isDigit : GoodIn wsX12_calendar wsX12_isDigit := goodIn_r _ [8, 9, 10, 7, 11] (by decide +kernel) (by decide +kernel)
set_option maxRecDepth 20000 in
theorem gX12_calendar_X12_isDigit : GoodIn wsX12_calendar (va_wsS RX12 138 yX12_isDigit wsX12_isDigit) := goodIn_app (goodIn_of _ (by decide +kernel)) ggX12_calendar_X12_isDigit
set_option maxRecDepth 20000 in
theorem ggX12_calendar_X12_in : GoodIn wsX12_calendar wsX12_in := goodIn_r _ [11] (by decide +kernel) (by decide +kernel)
set_option maxRecDepth 20000 in
theorem gX12_calendar_X12_in : GoodIn wsX12_calendar (va_wsS RX12 86 yX12_in wsX12_in) := goodIn_app (goodIn_of _ (by decide +kernel)) ggX12_calendar_X12_in
theorem dX12_calendar_0 : decode cX12_calendar 0 = .ok (.iconst 0, 1) := by decide +kernel
theorem dX12_calendar_1 : decode cX12_calendar 1 = .ok (.istore_n 1, 1) := by decide +kernel
theorem dX12_calendar_2 : decode cX12_calendar 2 = .ok (.bipush (-9), 2) := by decide +kernel
theorem dX12_calendar_4 : decode cX12_calendar 4 = .ok (.istore_n 2, 1) := by decide +kernel
theorem dX12_calendar_5 : decode cX12_calendar 5 = .ok (.iconst 0, 1) := by decide +kernel
theorem dX12_calendar_6 : decode cX12_calendar 6 = .ok (.istore_n 3, 1) := by decide +kernel
theorem dX12_calendar_7 : decode cX12_calendar 7 = .ok (.iconst 0, 1) := by decide +kernel
theorem dX12_calendar_8 : decode cX12_calendar 8 = .ok (.istore 4, 2) := by decide +kernel
theorem dX12_calendar_10 : decode cX12_calendar 10 = .ok (.iload_n 2, 1) := by decide +kernel
theorem dX12_calendar_11 : decode cX12_calendar 11 = .ok (.bipush (-9), 2) := by decide +kernel
theorem dX12_calendar_13 : decode cX12_calendar 13 = .ok (.if_icmp .ne 275, 3) := by decide +kernel
theorem dX12_calendar_16 : decode cX12_calendar 16 = .ok (.iload_n 1, 1) := by decide +kernel
theorem dX12_calendar_17 : decode cX12_calendar 17 = .ok (.aload_n 0, 1) := by decide +kernel
theorem dX12_calendar_18 : decode cX12_calendar 18 = .ok (.getfield 90, 3) := by decide +kernel
theorem dX12_calendar_21 : decode cX12_calendar 21 = .ok (.if_icmp .ge 267, 3) := by decide +kernel
theorem dX12_calendar_24 : decode cX12_calendar 24 = .ok (.aload_n 0, 1) := by decide +kernel
theorem dX12_calendar_25 : decode cX12_calendar 25 = .ok (.getfield 7, 3) := by decide +kernel
theorem dX12_calendar_28 : decode cX12_calendar 28 = .ok (.iload_n 1, 1) := by decide +kernel
theorem dX12_calendar_29 : decode cX12_calendar 29 = .ok (.baload, 1) := by decide +kernel
theorem dX12_calendar_30 : decode cX12_calendar 30 = .ok (.sipush 255, 3) := by decide +kernel
theorem dX12_calendar_33 : decode cX12_calendar 33 = .ok (.iand, 1) := by decide +kernel
theorem dX12_calendar_34 : decode cX12_calendar 34 = .ok (.istore 5, 2) := by decide +kernel
theorem dX12_calendar_36 : decode cX12_calendar 36 = .ok (.iload_n 1, 1) := by decide +kernel
theorem dX12_calendar_37 : decode cX12_calendar 37 = .ok (.istore 6, 2) := by decide +kernel
theorem dX12_calendar_39 : decode cX12_calendar 39 = .ok (.iinc 1 1, 3) := by decide +kernel
theorem dX12_calendar_42 : decode cX12_calendar 42 = .ok (.iload 5, 2) := by decide +kernel
theorem dX12_calendar_44 : decode cX12_calendar 44 = .ok (.bipush 32, 2) := by decide +kernel
theorem dX12_calendar_46 : decode cX12_calendar 46 = .ok (.if_icmp .eq 239, 3) := by decide +kernel
theorem dX12_calendar_49 : decode cX12_calendar 49 = .ok (.iload 5, 2) := by decide +kernel
theorem dX12_calendar_51 : decode cX12_calendar 51 = .ok (.invokestatic 138, 3) := by decide +kernel
theorem dX12_calendar_54 : decode cX12_calendar 54 = .ok (.ifCond .eq 11, 3) := by decide +kernel
theorem dX12_calendar_57 : decode cX12_calendar 57 = .ok (.iload 5, 2) := by decide +kernel
theorem dX12_calendar_59 : decode cX12_calendar 59 = .ok (.bipush 48, 2) := by decide +kernel
theorem dX12_calendar_61 : decode cX12_calendar 61 = .ok (.isub, 1) := by decide +kernel
theorem dX12_calendar_62 : decode cX12_calendar 62 = .ok (.goto 4, 3) := by decide +kernel
theorem dX12_calendar_65 : decode cX12_calendar 65 = .ok (.iconst 0, 1) := by decide +kernel
theorem dX12_calendar_66 : decode cX12_calendar 66 = .ok (.istore 7, 2) := by decide +kernel
theorem dX12_calendar_68 : decode cX12_calendar 68 = .ok (.iload 5, 2) := by decide +kernel
theorem dX12_calendar_70 : decode cX12_calendar 70 = .ok (.invokestatic 138, 3) := by decide +kernel
theorem dX12_calendar_73 : decode cX12_calendar 73 = .ok (.ifCond .eq 62, 3) := by decide +kernel
theorem dX12_calendar_76 : decode cX12_calendar 76 = .ok (.iload_n 1, 1) := by decide +kernel
theorem dX12_calendar_77 : decode cX12_calendar 77 = .ok (.aload_n 0, 1) := by decide +kernel
theorem dX12_calendar_78 : decode cX12_calendar 78 = .ok (.getfield 90, 3) := by decide +kernel
theorem dX12_calendar_81 : decode cX12_calendar 81 = .ok (.if_icmp .ge 54, 3) := by decide +kernel
theorem dX12_calendar_84 : decode cX12_calendar 84 = .ok (.aload_n 0, 1) := by decide +kernel
theorem dX12_calendar_85 : decode cX12_calendar 85 = .ok (.getfield 7, 3) := by decide +kernel
theorem dX12_calendar_88 : decode cX12_calendar 88 = .ok (.iload_n 1, 1) := by decide +kernel
theorem dX12_calendar_89 : decode cX12_calendar 89 = .ok (.baload, 1) := by decide +kernel
theorem dX12_calendar_90 : decode cX12_calendar 90 = .ok (.sipush 255, 3) := by decide +kernel
theorem dX12_calendar_93 : decode cX12_calendar 93 = .ok (.iand, 1) := by decide +kernel
theorem dX12_calendar_94 : decode cX12_calendar 94 = .ok (.invokestatic 138, 3) := by decide +kernel
theorem dX12_calendar_97 : decode cX12_calendar 97 = .ok (.ifCond .eq 38, 3) := by decide +kernel
theorem dX12_calendar_100 : decode cX12_calendar 100 = .ok (.iload 7, 2) := by decide +kernel
theorem dX12_calendar_102 : decode cX12_calendar 102 = .ok (.bipush 99, 2) := by decide +kernel
theorem dX12_calendar_104 : decode cX12_calendar 104 = .ok (.if_icmp .le 8, 3) := by decide +kernel
theorem dX12_calendar_107 : decode cX12_calendar 107 = .ok (.iload 7, 2) := by decide +kernel
theorem dX12_calendar_109 : decode cX12_calendar 109 = .ok (.goto 18, 3) := by decide +kernel
theorem dX12_calendar_112 : decode cX12_calendar 112 = .ok (.bipush 10, 2) := by decide +kernel
theorem dX12_calendar_114 : decode cX12_calendar 114 = .ok (.iload 7, 2) := by decide +kernel
theorem dX12_calendar_116 : decode cX12_calendar 116 = .ok (.imul, 1) := by decide +kernel
theorem dX12_calendar_117 : decode cX12_calendar 117 = .ok (.aload_n 0, 1) := by decide +kernel
theorem dX12_calendar_118 : decode cX12_calendar 118 = .ok (.getfield 7, 3) := by decide +kernel
theorem dX12_calendar_121 : decode cX12_calendar 121 = .ok (.iload_n 1, 1) := by decide +kernel
theorem dX12_calendar_122 : decode cX12_calendar 122 = .ok (.baload, 1) := by decide +kernel
theorem dX12_calendar_123 : decode cX12_calendar 123 = .ok (.iadd, 1) := by decide +kernel
theorem dX12_calendar_124 : decode cX12_calendar 124 = .ok (.bipush 48, 2) := by decide +kernel
theorem dX12_calendar_126 : decode cX12_calendar 126 = .ok (.isub, 1) := by decide +kernel
theorem dX12_calendar_127 : decode cX12_calendar 127 = .ok (.istore 7, 2) := by decide +kernel
theorem dX12_calendar_129 : decode cX12_calendar 129 = .ok (.iinc 1 1, 3) := by decide +kernel
theorem dX12_calendar_132 : decode cX12_calendar 132 = .ok (.goto (-64), 3) := by decide +kernel
theorem dX12_calendar_135 : decode cX12_calendar 135 = .ok (.iload 7, 2) := by decide +kernel
theorem dX12_calendar_137 : decode cX12_calendar 137 = .ok (.bipush 29, 2) := by decide +kernel
theorem dX12_calendar_139 : decode cX12_calendar 139 = .ok (.bipush 30, 2) := by decide +kernel
theorem dX12_calendar_141 : decode cX12_calendar 141 = .ok (.invokestatic 86, 3) := by decide +kernel
theorem dX12_calendar_144 : decode cX12_calendar 144 = .ok (.ifCond .eq 15, 3) := by decide +kernel
theorem dX12_calendar_147 : decode cX12_calendar 147 = .ok (.iload_n 1, 1) := by decide +kernel
theorem dX12_calendar_148 : decode cX12_calendar 148 = .ok (.iload 6, 2) := by decide +kernel
theorem dX12_calendar_150 : decode cX12_calendar 150 = .ok (.isub, 1) := by decide +kernel
theorem dX12_calendar_151 : decode cX12_calendar 151 = .ok (.iconst 2, 1) := by decide +kernel
theorem dX12_calendar_152 : decode cX12_calendar 152 = .ok (.if_icmp .ne 7, 3) := by decide +kernel
theorem dX12_calendar_155 : decode cX12_calendar 155 = .ok (.iconst 1, 1) := by decide +kernel
theorem dX12_calendar_156 : decode cX12_calendar 156 = .ok (.goto 4, 3) := by decide +kernel
theorem dX12_calendar_159 : decode cX12_calendar 159 = .ok (.iconst 0, 1) := by decide +kernel
theorem dX12_calendar_160 : decode cX12_calendar 160 = .ok (.istore 8, 2) := by decide +kernel
theorem dX12_calendar_162 : decode cX12_calendar 162 = .ok (.iload 5, 2) := by decide +kernel
theorem dX12_calendar_164 : decode cX12_calendar 164 = .ok (.invokestatic 138, 3) := by decide +kernel
theorem dX12_calendar_167 : decode cX12_calendar 167 = .ok (.ifCond .eq 29, 3) := by decide +kernel
theorem dX12_calendar_170 : decode cX12_calendar 170 = .ok (.iload 8, 2) := by decide +kernel
theorem dX12_calendar_172 : decode cX12_calendar 172 = .ok (.ifCond .eq 20, 3) := by decide +kernel
theorem dX12_calendar_175 : decode cX12_calendar 175 = .ok (.iload_n 3, 1) := by decide +kernel
theorem dX12_calendar_176 : decode cX12_calendar 176 = .ok (.bipush 8, 2) := by decide +kernel
theorem dX12_calendar_178 : decode cX12_calendar 178 = .ok (.if_icmp .ge 14, 3) := by decide +kernel
theorem dX12_calendar_181 : decode cX12_calendar 181 = .ok (.iload 4, 2) := by decide +kernel
theorem dX12_calendar_183 : decode cX12_calendar 183 = .ok (.bipush 13, 2) := by decide +kernel
theorem dX12_calendar_185 : decode cX12_calendar 185 = .ok (.if_icmp .ge 7, 3) := by decide +kernel
theorem dX12_calendar_188 : decode cX12_calendar 188 = .ok (.iconst 1, 1) := by decide +kernel
theorem dX12_calendar_189 : decode cX12_calendar 189 = .ok (.goto 32, 3) := by decide +kernel
theorem dX12_calendar_192 : decode cX12_calendar 192 = .ok (.iconst 0, 1) := by decide +kernel
theorem dX12_calendar_193 : decode cX12_calendar 193 = .ok (.goto 28, 3) := by decide +kernel
theorem dX12_calendar_196 : decode cX12_calendar 196 = .ok (.iload 5, 2) := by decide +kernel
theorem dX12_calendar_198 : decode cX12_calendar 198 = .ok (.bipush 59, 2) := by decide +kernel
theorem dX12_calendar_200 : decode cX12_calendar 200 = .ok (.if_icmp .ne 20, 3) := by decide +kernel
theorem dX12_calendar_203 : decode cX12_calendar 203 = .ok (.iload_n 3, 1) := by decide +kernel
theorem dX12_calendar_204 : decode cX12_calendar 204 = .ok (.bipush 8, 2) := by decide +kernel
theorem dX12_calendar_206 : decode cX12_calendar 206 = .ok (.if_icmp .ge 14, 3) := by decide +kernel
theorem dX12_calendar_209 : decode cX12_calendar 209 = .ok (.iload 4, 2) := by decide +kernel
theorem dX12_calendar_211 : decode cX12_calendar 211 = .ok (.bipush 12, 2) := by decide +kernel
theorem dX12_calendar_213 : decode cX12_calendar 213 = .ok (.if_icmp .lt 7, 3) := by decide +kernel
theorem dX12_calendar_216 : decode cX12_calendar 216 = .ok (.iconst 1, 1) := by decide +kernel
theorem dX12_calendar_217 : decode cX12_calendar 217 = .ok (.goto 4, 3) := by decide +kernel
theorem dX12_calendar_220 : decode cX12_calendar 220 = .ok (.iconst 0, 1) := by decide +kernel
theorem dX12_calendar_221 : decode cX12_calendar 221 = .ok (.istore 9, 2) := by decide +kernel
theorem dX12_calendar_223 : decode cX12_calendar 223 = .ok (.iload 9, 2) := by decide +kernel
theorem dX12_calendar_225 : decode cX12_calendar 225 = .ok (.ifCond .ne 9, 3) := by decide +kernel
theorem dX12_calendar_228 : decode cX12_calendar 228 = .ok (.iload 6, 2) := by decide +kernel
theorem dX12_calendar_230 : decode cX12_calendar 230 = .ok (.istore_n 2, 1) := by decide +kernel
theorem dX12_calendar_231 : decode cX12_calendar 231 = .ok (.goto 54, 3) := by decide +kernel
theorem dX12_calendar_234 : decode cX12_calendar 234 = .ok (.iload 5, 2) := by decide +kernel
theorem dX12_calendar_236 : decode cX12_calendar 236 = .ok (.invokestatic 138, 3) := by decide +kernel
theorem dX12_calendar_239 : decode cX12_calendar 239 = .ok (.ifCond .eq 26, 3) := by decide +kernel
theorem dX12_calendar_242 : decode cX12_calendar 242 = .ok (.iinc 4 1, 3) := by decide +kernel
theorem dX12_calendar_245 : decode cX12_calendar 245 = .ok (.aload_n 0, 1) := by decide +kernel
theorem dX12_calendar_246 : decode cX12_calendar 246 = .ok (.getfield 32, 3) := by decide +kernel
theorem dX12_calendar_249 : decode cX12_calendar 249 = .ok (.bipush 112, 2) := by decide +kernel
theorem dX12_calendar_251 : decode cX12_calendar 251 = .ok (.bipush 14, 2) := by decide +kernel
theorem dX12_calendar_253 : decode cX12_calendar 253 = .ok (.iload_n 3, 1) := by decide +kernel
theorem dX12_calendar_254 : decode cX12_calendar 254 = .ok (.imul, 1) := by decide +kernel
theorem dX12_calendar_255 : decode cX12_calendar 255 = .ok (.iadd, 1) := by decide +kernel
theorem dX12_calendar_256 : decode cX12_calendar 256 = .ok (.iload 4, 2) := by decide +kernel
theorem dX12_calendar_258 : decode cX12_calendar 258 = .ok (.iadd, 1) := by decide +kernel
theorem dX12_calendar_259 : decode cX12_calendar 259 = .ok (.iload 7, 2) := by decide +kernel
theorem dX12_calendar_261 : decode cX12_calendar 261 = .ok (.iastore, 1) := by decide +kernel
theorem dX12_calendar_262 : decode cX12_calendar 262 = .ok (.goto 23, 3) := by decide +kernel
theorem dX12_calendar_265 : decode cX12_calendar 265 = .ok (.aload_n 0, 1) := by decide +kernel
theorem dX12_calendar_266 : decode cX12_calendar 266 = .ok (.getfield 32, 3) := by decide +kernel
theorem dX12_calendar_269 : decode cX12_calendar 269 = .ok (.bipush 112, 2) := by decide +kernel
theorem dX12_calendar_271 : decode cX12_calendar 271 = .ok (.bipush 14, 2) := by decide +kernel
theorem dX12_calendar_273 : decode cX12_calendar 273 = .ok (.iload_n 3, 1) := by decide +kernel
theorem dX12_calendar_274 : decode cX12_calendar 274 = .ok (.imul, 1) := by decide +kernel
theorem dX12_calendar_275 : decode cX12_calendar 275 = .ok (.iadd, 1) := by decide +kernel
theorem dX12_calendar_276 : decode cX12_calendar 276 = .ok (.iload 4, 2) := by decide +kernel
theorem dX12_calendar_278 : decode cX12_calendar 278 = .ok (.iastore, 1) := by decide +kernel
theorem dX12_calendar_279 : decode cX12_calendar 279 = .ok (.iconst 0, 1) := by decide +kernel
theorem dX12_calendar_280 : decode cX12_calendar 280 = .ok (.istore 4, 2) := by decide +kernel
theorem dX12_calendar_282 : decode cX12_calendar 282 = .ok (.iinc 3 1, 3) := by decide +kernel
theorem dX12_calendar_285 : decode cX12_calendar 285 = .ok (.goto (-275), 3) := by decide +kernel
theorem dX12_calendar_288 : decode cX12_calendar 288 = .ok (.iload_n 2, 1) := by decide +kernel
theorem dX12_calendar_289 : decode cX12_calendar 289 = .ok (.bipush (-9), 2) := by decide +kernel
theorem dX12_calendar_291 : decode cX12_calendar 291 = .ok (.if_icmp .ne 15, 3) := by decide +kernel
theorem dX12_calendar_294 : decode cX12_calendar 294 = .ok (.iload 4, 2) := by decide +kernel
theorem dX12_calendar_296 : decode cX12_calendar 296 = .ok (.ifCond .le 10, 3) := by decide +kernel
theorem dX12_calendar_299 : decode cX12_calendar 299 = .ok (.aload_n 0, 1) := by decide +kernel
theorem dX12_calendar_300 : decode cX12_calendar 300 = .ok (.getfield 90, 3) := by decide +kernel
theorem dX12_calendar_303 : decode cX12_calendar 303 = .ok (.goto 4, 3) := by decide +kernel
theorem dX12_calendar_306 : decode cX12_calendar 306 = .ok (.iload_n 2, 1) := by decide +kernel
theorem dX12_calendar_307 : decode cX12_calendar 307 = .ok (.istore_n 2, 1) := by decide +kernel
theorem dX12_calendar_308 : decode cX12_calendar 308 = .ok (.iload_n 2, 1) := by decide +kernel
theorem dX12_calendar_309 : decode cX12_calendar 309 = .ok (.bipush (-9), 2) := by decide +kernel
theorem dX12_calendar_311 : decode cX12_calendar 311 = .ok (.if_icmp .eq 8, 3) := by decide +kernel
theorem dX12_calendar_314 : decode cX12_calendar 314 = .ok (.bipush (-10), 2) := by decide +kernel
theorem dX12_calendar_316 : decode cX12_calendar 316 = .ok (.iload_n 2, 1) := by decide +kernel
theorem dX12_calendar_317 : decode cX12_calendar 317 = .ok (.isub, 1) := by decide +kernel
theorem dX12_calendar_318 : decode cX12_calendar 318 = .ok (.ireturn, 1) := by decide +kernel
theorem dX12_calendar_319 : decode cX12_calendar 319 = .ok (.aload_n 0, 1) := by decide +kernel
theorem dX12_calendar_320 : decode cX12_calendar 320 = .ok (.getfield 29, 3) := by decide +kernel
theorem dX12_calendar_323 : decode cX12_calendar 323 = .ok (.iconst 0, 1) := by decide +kernel
theorem dX12_calendar_324 : decode cX12_calendar 324 = .ok (.iload_n 3, 1) := by decide +kernel
theorem dX12_calendar_325 : decode cX12_calendar 325 = .ok (.iastore, 1) := by decide +kernel
theorem dX12_calendar_326 : decode cX12_calendar 326 = .ok (.iconst 0, 1) := by decide +kernel
theorem dX12_calendar_327 : decode cX12_calendar 327 = .ok (.istore 5, 2) := by decide +kernel
theorem dX12_calendar_329 : decode cX12_calendar 329 = .ok (.iload 5, 2) := by decide +kernel
theorem dX12_calendar_331 : decode cX12_calendar 331 = .ok (.bipush 112, 2) := by decide +kernel
theorem dX12_calendar_333 : decode cX12_calendar 333 = .ok (.if_icmp .ge 26, 3) := by decide +kernel
theorem dX12_calendar_336 : decode cX12_calendar 336 = .ok (.aload_n 0, 1) := by decide +kernel
theorem dX12_calendar_337 : decode cX12_calendar 337 = .ok (.getfield 32, 3) := by decide +kernel
theorem dX12_calendar_340 : decode cX12_calendar 340 = .ok (.iload 5, 2) := by decide +kernel
theorem dX12_calendar_342 : decode cX12_calendar 342 = .ok (.aload_n 0, 1) := by decide +kernel
theorem dX12_calendar_343 : decode cX12_calendar 343 = .ok (.getfield 32, 3) := by decide +kernel
theorem dX12_calendar_346 : decode cX12_calendar 346 = .ok (.bipush 112, 2) := by decide +kernel
theorem dX12_calendar_348 : decode cX12_calendar 348 = .ok (.iload 5, 2) := by decide +kernel
theorem dX12_calendar_350 : decode cX12_calendar 350 = .ok (.iadd, 1) := by decide +kernel
theorem dX12_calendar_351 : decode cX12_calendar 351 = .ok (.iaload, 1) := by decide +kernel
theorem dX12_calendar_352 : decode cX12_calendar 352 = .ok (.iastore, 1) := by decide +kernel
theorem dX12_calendar_353 : decode cX12_calendar 353 = .ok (.iinc 5 1, 3) := by decide +kernel
theorem dX12_calendar_356 : decode cX12_calendar 356 = .ok (.goto (-27), 3) := by decide +kernel
theorem dX12_calendar_359 : decode cX12_calendar 359 = .ok (.aload_n 0, 1) := by decide +kernel
theorem dX12_calendar_360 : decode cX12_calendar 360 = .ok (.iconst 0, 1) := by decide +kernel
theorem dX12_calendar_361 : decode cX12_calendar 361 = .ok (.putfield 90, 3) := by decide +kernel
theorem dX12_calendar_364 : decode cX12_calendar 364 = .ok (.iload_n 3, 1) := by decide +kernel
theorem dX12_calendar_365 : decode cX12_calendar 365 = .ok (.ireturn, 1) := by decide +kernel
set_option maxRecDepth 20000 in
theorem ggX12_clock_X12_in : GoodIn wsX12_clock wsX12_in := goodIn_r _ [7] (by decide +kernel) (by decide +kernel)
set_option maxRecDepth 20000 in
theorem gX12_clock_X12_in : GoodIn wsX12_clock (va_wsS RX12 86 yX12_in wsX12_in) := goodIn_app (goodIn_of _ (by decide +kernel)) ggX12_clock_X12_in
theorem dX12_clock_0 : decode cX12_clock 0 = .ok (.iload_n 1, 1) := by decide +kernel
theorem dX12_clock_1 : decode cX12_clock 1 = .ok (.iconst 0, 1) := by decide +kernel
theorem dX12_clock_2 : decode cX12_clock 2 = .ok (.aload_n 0, 1) := by decide +kernel
theorem dX12_clock_3 : decode cX12_clock 3 = .ok (.getfield 29, 3) := by decide +kernel
theorem dX12_clock_6 : decode cX12_clock 6 = .ok (.iconst 0, 1) := by decide +kernel
theorem dX12_clock_7 : decode cX12_clock 7 = .ok (.iaload, 1) := by decide +kernel
theorem dX12_clock_8 : decode cX12_clock 8 = .ok (.iconst 1, 1) := by decide +kernel
theorem dX12_clock_9 : decode cX12_clock 9 = .ok (.isub, 1) := by decide +kernel
theorem dX12_clock_10 : decode cX12_clock 10 = .ok (.invokestatic 86, 3) := by decide +kernel
theorem dX12_clock_13 : decode cX12_clock 13 = .ok (.ifCond .eq 56, 3) := by decide +kernel
theorem dX12_clock_16 : decode cX12_clock 16 = .ok (.iload_n 2, 1) := by decide +kernel
theorem dX12_clock_17 : decode cX12_clock 17 = .ok (.iconst 0, 1) := by decide +kernel
theorem dX12_clock_18 : decode cX12_clock 18 = .ok (.aload_n 0, 1) := by decide +kernel
theorem dX12_clock_19 : decode cX12_clock 19 = .ok (.getfield 32, 3) := by decide +kernel
theorem dX12_clock_22 : decode cX12_clock 22 = .ok (.bipush 14, 2) := by decide +kernel
theorem dX12_clock_24 : decode cX12_clock 24 = .ok (.iload_n 1, 1) := by decide +kernel
theorem dX12_clock_25 : decode cX12_clock 25 = .ok (.imul, 1) := by decide +kernel
theorem dX12_clock_26 : decode cX12_clock 26 = .ok (.iaload, 1) := by decide +kernel
theorem dX12_clock_27 : decode cX12_clock 27 = .ok (.iconst 1, 1) := by decide +kernel
theorem dX12_clock_28 : decode cX12_clock 28 = .ok (.isub, 1) := by decide +kernel
theorem dX12_clock_29 : decode cX12_clock 29 = .ok (.invokestatic 86, 3) := by decide +kernel
theorem dX12_clock_32 : decode cX12_clock 32 = .ok (.ifCond .eq 37, 3) := by decide +kernel
theorem dX12_clock_35 : decode cX12_clock 35 = .ok (.iload_n 3, 1) := by decide +kernel
theorem dX12_clock_36 : decode cX12_clock 36 = .ok (.iconst 0, 1) := by decide +kernel
theorem dX12_clock_37 : decode cX12_clock 37 = .ok (.aload_n 0, 1) := by decide +kernel
theorem dX12_clock_38 : decode cX12_clock 38 = .ok (.getfield 32, 3) := by decide +kernel
theorem dX12_clock_41 : decode cX12_clock 41 = .ok (.bipush 14, 2) := by decide +kernel
theorem dX12_clock_43 : decode cX12_clock 43 = .ok (.iload_n 1, 1) := by decide +kernel
theorem dX12_clock_44 : decode cX12_clock 44 = .ok (.imul, 1) := by decide +kernel
theorem dX12_clock_45 : decode cX12_clock 45 = .ok (.iconst 1, 1) := by decide +kernel
theorem dX12_clock_46 : decode cX12_clock 46 = .ok (.iadd, 1) := by decide +kernel
theorem dX12_clock_47 : decode cX12_clock 47 = .ok (.iload_n 2, 1) := by decide +kernel
theorem dX12_clock_48 : decode cX12_clock 48 = .ok (.iadd, 1) := by decide +kernel
theorem dX12_clock_49 : decode cX12_clock 49 = .ok (.iaload, 1) := by decide +kernel
theorem dX12_clock_50 : decode cX12_clock 50 = .ok (.iconst 1, 1) := by decide +kernel
theorem dX12_clock_51 : decode cX12_clock 51 = .ok (.isub, 1) := by decide +kernel
theorem dX12_clock_52 : decode cX12_clock 52 = .ok (.invokestatic 86, 3) := by decide +kernel
theorem dX12_clock_55 : decode cX12_clock 55 = .ok (.ifCond .eq 14, 3) := by decide +kernel
theorem dX12_clock_58 : decode cX12_clock 58 = .ok (.iload 4, 2) := by decide +kernel
theorem dX12_clock_60 : decode cX12_clock 60 = .ok (.iconst 0, 1) := by decide +kernel
theorem dX12_clock_61 : decode cX12_clock 61 = .ok (.bipush 11, 2) := by decide +kernel
theorem dX12_clock_63 : decode cX12_clock 63 = .ok (.invokestatic 86, 3) := by decide +kernel
theorem dX12_clock_66 : decode cX12_clock 66 = .ok (.ifCond .ne 6, 3) := by decide +kernel
theorem dX12_clock_69 : decode cX12_clock 69 = .ok (.ldc 122, 2) := by decide +kernel
theorem dX12_clock_71 : decode cX12_clock 71 = .ok (.ireturn, 1) := by decide +kernel
theorem dX12_clock_72 : decode cX12_clock 72 = .ok (.iload_n 3, 1) := by decide +kernel
theorem dX12_clock_73 : decode cX12_clock 73 = .ok (.istore 5, 2) := by decide +kernel
theorem dX12_clock_75 : decode cX12_clock 75 = .ok (.iconst 0, 1) := by decide +kernel
theorem dX12_clock_76 : decode cX12_clock 76 = .ok (.istore 6, 2) := by decide +kernel
theorem dX12_clock_78 : decode cX12_clock 78 = .ok (.iload 6, 2) := by decide +kernel
theorem dX12_clock_80 : decode cX12_clock 80 = .ok (.iload_n 1, 1) := by decide +kernel
theorem dX12_clock_81 : decode cX12_clock 81 = .ok (.if_icmp .gt 67, 3) := by decide +kernel
theorem dX12_clock_84 : decode cX12_clock 84 = .ok (.iload 6, 2) := by decide +kernel
theorem dX12_clock_86 : decode cX12_clock 86 = .ok (.iload_n 1, 1) := by decide +kernel
theorem dX12_clock_87 : decode cX12_clock 87 = .ok (.if_icmp .ge 16, 3) := by decide +kernel
theorem dX12_clock_90 : decode cX12_clock 90 = .ok (.aload_n 0, 1) := by decide +kernel
theorem dX12_clock_91 : decode cX12_clock 91 = .ok (.getfield 32, 3) := by decide +kernel
theorem dX12_clock_94 : decode cX12_clock 94 = .ok (.bipush 14, 2) := by decide +kernel
theorem dX12_clock_96 : decode cX12_clock 96 = .ok (.iload 6, 2) := by decide +kernel
theorem dX12_clock_98 : decode cX12_clock 98 = .ok (.imul, 1) := by decide +kernel
theorem dX12_clock_99 : decode cX12_clock 99 = .ok (.iaload, 1) := by decide +kernel
theorem dX12_clock_100 : decode cX12_clock 100 = .ok (.goto 4, 3) := by decide +kernel
theorem dX12_clock_103 : decode cX12_clock 103 = .ok (.iload_n 2, 1) := by decide +kernel
theorem dX12_clock_104 : decode cX12_clock 104 = .ok (.istore 7, 2) := by decide +kernel
theorem dX12_clock_106 : decode cX12_clock 106 = .ok (.iconst 0, 1) := by decide +kernel
theorem dX12_clock_107 : decode cX12_clock 107 = .ok (.istore 8, 2) := by decide +kernel
theorem dX12_clock_109 : decode cX12_clock 109 = .ok (.iload 8, 2) := by decide +kernel
theorem dX12_clock_111 : decode cX12_clock 111 = .ok (.iload 7, 2) := by decide +kernel
theorem dX12_clock_113 : decode cX12_clock 113 = .ok (.if_icmp .ge 29, 3) := by decide +kernel
theorem dX12_clock_116 : decode cX12_clock 116 = .ok (.iload 5, 2) := by decide +kernel
theorem dX12_clock_118 : decode cX12_clock 118 = .ok (.aload_n 0, 1) := by decide +kernel
theorem dX12_clock_119 : decode cX12_clock 119 = .ok (.getfield 32, 3) := by decide +kernel
theorem dX12_clock_122 : decode cX12_clock 122 = .ok (.bipush 14, 2) := by decide +kernel
theorem dX12_clock_124 : decode cX12_clock 124 = .ok (.iload 6, 2) := by decide +kernel
theorem dX12_clock_126 : decode cX12_clock 126 = .ok (.imul, 1) := by decide +kernel
theorem dX12_clock_127 : decode cX12_clock 127 = .ok (.iconst 1, 1) := by decide +kernel
theorem dX12_clock_128 : decode cX12_clock 128 = .ok (.iadd, 1) := by decide +kernel
theorem dX12_clock_129 : decode cX12_clock 129 = .ok (.iload 8, 2) := by decide +kernel
theorem dX12_clock_131 : decode cX12_clock 131 = .ok (.iadd, 1) := by decide +kernel
theorem dX12_clock_132 : decode cX12_clock 132 = .ok (.iaload, 1) := by decide +kernel
theorem dX12_clock_133 : decode cX12_clock 133 = .ok (.iadd, 1) := by decide +kernel
theorem dX12_clock_134 : decode cX12_clock 134 = .ok (.istore 5, 2) := by decide +kernel
theorem dX12_clock_136 : decode cX12_clock 136 = .ok (.iinc 8 1, 3) := by decide +kernel
theorem dX12_clock_139 : decode cX12_clock 139 = .ok (.goto (-30), 3) := by decide +kernel
theorem dX12_clock_142 : decode cX12_clock 142 = .ok (.iinc 6 1, 3) := by decide +kernel
theorem dX12_clock_145 : decode cX12_clock 145 = .ok (.goto (-67), 3) := by decide +kernel
theorem dX12_clock_148 : decode cX12_clock 148 = .ok (.sipush 1440, 3) := by decide +kernel
theorem dX12_clock_151 : decode cX12_clock 151 = .ok (.iload 5, 2) := by decide +kernel
theorem dX12_clock_153 : decode cX12_clock 153 = .ok (.imul, 1) := by decide +kernel
theorem dX12_clock_154 : decode cX12_clock 154 = .ok (.bipush 120, 2) := by decide +kernel
theorem dX12_clock_156 : decode cX12_clock 156 = .ok (.iload 4, 2) := by decide +kernel
theorem dX12_clock_158 : decode cX12_clock 158 = .ok (.imul, 1) := by decide +kernel
theorem dX12_clock_159 : decode cX12_clock 159 = .ok (.iadd, 1) := by decide +kernel
theorem dX12_clock_160 : decode cX12_clock 160 = .ok (.bipush 60, 2) := by decide +kernel
theorem dX12_clock_162 : decode cX12_clock 162 = .ok (.isub, 1) := by decide +kernel
theorem dX12_clock_163 : decode cX12_clock 163 = .ok (.ireturn, 1) := by decide +kernel
set_option maxRecDepth 20000 in
theorem ggX12_told_X12_in : GoodIn wsX12_told wsX12_in := goodIn_r _ [7] (by decide +kernel) (by decide +kernel)
set_option maxRecDepth 20000 in
theorem gX12_told_X12_in : GoodIn wsX12_told (va_wsS RX12 86 yX12_in wsX12_in) := goodIn_app (goodIn_of _ (by decide +kernel)) ggX12_told_X12_in
theorem dX12_told_0 : decode cX12_told 0 = .ok (.iload_n 1, 1) := by decide +kernel
theorem dX12_told_1 : decode cX12_told 1 = .ok (.bipush (-60), 2) := by decide +kernel
theorem dX12_told_3 : decode cX12_told 3 = .ok (.if_icmp .lt 12, 3) := by decide +kernel
theorem dX12_told_6 : decode cX12_told 6 = .ok (.iload_n 2, 1) := by decide +kernel
theorem dX12_told_7 : decode cX12_told 7 = .ok (.iconst 0, 1) := by decide +kernel
theorem dX12_told_8 : decode cX12_told 8 = .ok (.iconst 3, 1) := by decide +kernel
theorem dX12_told_9 : decode cX12_told 9 = .ok (.invokestatic 86, 3) := by decide +kernel
theorem dX12_told_12 : decode cX12_told 12 = .ok (.ifCond .ne 6, 3) := by decide +kernel
theorem dX12_told_15 : decode cX12_told 15 = .ok (.ldc 122, 2) := by decide +kernel
theorem dX12_told_17 : decode cX12_told 17 = .ok (.ireturn, 1) := by decide +kernel
theorem dX12_told_18 : decode cX12_told 18 = .ok (.iload_n 1, 1) := by decide +kernel
theorem dX12_told_19 : decode cX12_told 19 = .ok (.bipush 120, 2) := by decide +kernel
theorem dX12_told_21 : decode cX12_told 21 = .ok (.idiv, 1) := by decide +kernel
theorem dX12_told_22 : decode cX12_told 22 = .ok (.iload_n 1, 1) := by decide +kernel
theorem dX12_told_23 : decode cX12_told 23 = .ok (.bipush 120, 2) := by decide +kernel
theorem dX12_told_25 : decode cX12_told 25 = .ok (.irem, 1) := by decide +kernel
theorem dX12_told_26 : decode cX12_told 26 = .ok (.bipush 60, 2) := by decide +kernel
theorem dX12_told_28 : decode cX12_told 28 = .ok (.if_icmp .lt 7, 3) := by decide +kernel
theorem dX12_told_31 : decode cX12_told 31 = .ok (.iconst 1, 1) := by decide +kernel
theorem dX12_told_32 : decode cX12_told 32 = .ok (.goto 4, 3) := by decide +kernel
theorem dX12_told_35 : decode cX12_told 35 = .ok (.iconst 0, 1) := by decide +kernel
theorem dX12_told_36 : decode cX12_told 36 = .ok (.iadd, 1) := by decide +kernel
theorem dX12_told_37 : decode cX12_told 37 = .ok (.istore_n 3, 1) := by decide +kernel
theorem dX12_told_38 : decode cX12_told 38 = .ok (.iload_n 3, 1) := by decide +kernel
theorem dX12_told_39 : decode cX12_told 39 = .ok (.bipush 12, 2) := by decide +kernel
theorem dX12_told_41 : decode cX12_told 41 = .ok (.idiv, 1) := by decide +kernel
theorem dX12_told_42 : decode cX12_told 42 = .ok (.istore 4, 2) := by decide +kernel
theorem dX12_told_44 : decode cX12_told 44 = .ok (.iconst 0, 1) := by decide +kernel
theorem dX12_told_45 : decode cX12_told 45 = .ok (.istore 5, 2) := by decide +kernel
theorem dX12_told_47 : decode cX12_told 47 = .ok (.iload 5, 2) := by decide +kernel
theorem dX12_told_49 : decode cX12_told 49 = .ok (.aload_n 0, 1) := by decide +kernel
theorem dX12_told_50 : decode cX12_told 50 = .ok (.getfield 29, 3) := by decide +kernel
theorem dX12_told_53 : decode cX12_told 53 = .ok (.iconst 0, 1) := by decide +kernel
theorem dX12_told_54 : decode cX12_told 54 = .ok (.iaload, 1) := by decide +kernel
theorem dX12_told_55 : decode cX12_told 55 = .ok (.if_icmp .ge 98, 3) := by decide +kernel
theorem dX12_told_58 : decode cX12_told 58 = .ok (.iconst 0, 1) := by decide +kernel
theorem dX12_told_59 : decode cX12_told 59 = .ok (.istore 6, 2) := by decide +kernel
theorem dX12_told_61 : decode cX12_told 61 = .ok (.iload 6, 2) := by decide +kernel
theorem dX12_told_63 : decode cX12_told 63 = .ok (.aload_n 0, 1) := by decide +kernel
theorem dX12_told_64 : decode cX12_told 64 = .ok (.getfield 32, 3) := by decide +kernel
theorem dX12_told_67 : decode cX12_told 67 = .ok (.bipush 14, 2) := by decide +kernel
theorem dX12_told_69 : decode cX12_told 69 = .ok (.iload 5, 2) := by decide +kernel
theorem dX12_told_71 : decode cX12_told 71 = .ok (.imul, 1) := by decide +kernel
theorem dX12_told_72 : decode cX12_told 72 = .ok (.iaload, 1) := by decide +kernel
theorem dX12_told_73 : decode cX12_told 73 = .ok (.if_icmp .ge 74, 3) := by decide +kernel
theorem dX12_told_76 : decode cX12_told 76 = .ok (.aload_n 0, 1) := by decide +kernel
theorem dX12_told_77 : decode cX12_told 77 = .ok (.getfield 32, 3) := by decide +kernel
theorem dX12_told_80 : decode cX12_told 80 = .ok (.bipush 14, 2) := by decide +kernel
theorem dX12_told_82 : decode cX12_told 82 = .ok (.iload 5, 2) := by decide +kernel
theorem dX12_told_84 : decode cX12_told 84 = .ok (.imul, 1) := by decide +kernel
theorem dX12_told_85 : decode cX12_told 85 = .ok (.iconst 1, 1) := by decide +kernel
theorem dX12_told_86 : decode cX12_told 86 = .ok (.iadd, 1) := by decide +kernel
theorem dX12_told_87 : decode cX12_told 87 = .ok (.iload 6, 2) := by decide +kernel
theorem dX12_told_89 : decode cX12_told 89 = .ok (.iadd, 1) := by decide +kernel
theorem dX12_told_90 : decode cX12_told 90 = .ok (.iaload, 1) := by decide +kernel
theorem dX12_told_91 : decode cX12_told 91 = .ok (.istore 7, 2) := by decide +kernel
theorem dX12_told_93 : decode cX12_told 93 = .ok (.iload 4, 2) := by decide +kernel
theorem dX12_told_95 : decode cX12_told 95 = .ok (.iload 7, 2) := by decide +kernel
theorem dX12_told_97 : decode cX12_told 97 = .ok (.if_icmp .ge 37, 3) := by decide +kernel
theorem dX12_told_100 : decode cX12_told 100 = .ok (.iload_n 2, 1) := by decide +kernel
theorem dX12_told_101 : decode cX12_told 101 = .ok (.ifCond .ne 8, 3) := by decide +kernel
theorem dX12_told_104 : decode cX12_told 104 = .ok (.iload 5, 2) := by decide +kernel
theorem dX12_told_106 : decode cX12_told 106 = .ok (.goto 27, 3) := by decide +kernel
theorem dX12_told_109 : decode cX12_told 109 = .ok (.iload_n 2, 1) := by decide +kernel
theorem dX12_told_110 : decode cX12_told 110 = .ok (.iconst 1, 1) := by decide +kernel
theorem dX12_told_111 : decode cX12_told 111 = .ok (.if_icmp .ne 8, 3) := by decide +kernel
theorem dX12_told_114 : decode cX12_told 114 = .ok (.iload 6, 2) := by decide +kernel
theorem dX12_told_116 : decode cX12_told 116 = .ok (.goto 17, 3) := by decide +kernel
theorem dX12_told_119 : decode cX12_told 119 = .ok (.iload_n 2, 1) := by decide +kernel
theorem dX12_told_120 : decode cX12_told 120 = .ok (.iconst 2, 1) := by decide +kernel
theorem dX12_told_121 : decode cX12_told 121 = .ok (.if_icmp .ne 8, 3) := by decide +kernel
theorem dX12_told_124 : decode cX12_told 124 = .ok (.iload 4, 2) := by decide +kernel
theorem dX12_told_126 : decode cX12_told 126 = .ok (.goto 7, 3) := by decide +kernel
theorem dX12_told_129 : decode cX12_told 129 = .ok (.iload_n 3, 1) := by decide +kernel
theorem dX12_told_130 : decode cX12_told 130 = .ok (.bipush 12, 2) := by decide +kernel
theorem dX12_told_132 : decode cX12_told 132 = .ok (.irem, 1) := by decide +kernel
theorem dX12_told_133 : decode cX12_told 133 = .ok (.ireturn, 1) := by decide +kernel
theorem dX12_told_134 : decode cX12_told 134 = .ok (.iload 4, 2) := by decide +kernel
theorem dX12_told_136 : decode cX12_told 136 = .ok (.iload 7, 2) := by decide +kernel
theorem dX12_told_138 : decode cX12_told 138 = .ok (.isub, 1) := by decide +kernel
theorem dX12_told_139 : decode cX12_told 139 = .ok (.istore 4, 2) := by decide +kernel
theorem dX12_told_141 : decode cX12_told 141 = .ok (.iinc 6 1, 3) := by decide +kernel
theorem dX12_told_144 : decode cX12_told 144 = .ok (.goto (-83), 3) := by decide +kernel
theorem dX12_told_147 : decode cX12_told 147 = .ok (.iinc 5 1, 3) := by decide +kernel
theorem dX12_told_150 : decode cX12_told 150 = .ok (.goto (-103), 3) := by decide +kernel
theorem dX12_told_153 : decode cX12_told 153 = .ok (.ldc 122, 2) := by decide +kernel
theorem dX12_told_155 : decode cX12_told 155 = .ok (.ireturn, 1) := by decide +kernel
set_option maxRecDepth 20000 in
theorem ggX12_ring_X12_in : GoodIn wsX12_ring wsX12_in := goodIn_r _ [6] (by decide +kernel) (by decide +kernel)
set_option maxRecDepth 20000 in
theorem gX12_ring_X12_in : GoodIn wsX12_ring (va_wsS RX12 86 yX12_in wsX12_in) := goodIn_app (goodIn_of _ (by decide +kernel)) ggX12_ring_X12_in
theorem dX12_ring_0 : decode cX12_ring 0 = .ok (.iload_n 1, 1) := by decide +kernel
theorem dX12_ring_1 : decode cX12_ring 1 = .ok (.iconst 0, 1) := by decide +kernel
theorem dX12_ring_2 : decode cX12_ring 2 = .ok (.bipush 99, 2) := by decide +kernel
theorem dX12_ring_4 : decode cX12_ring 4 = .ok (.invokestatic 86, 3) := by decide +kernel
theorem dX12_ring_7 : decode cX12_ring 7 = .ok (.ifCond .ne 5, 3) := by decide +kernel
theorem dX12_ring_10 : decode cX12_ring 10 = .ok (.iconst (-1), 1) := by decide +kernel
theorem dX12_ring_11 : decode cX12_ring 11 = .ok (.ireturn, 1) := by decide +kernel
theorem dX12_ring_12 : decode cX12_ring 12 = .ok (.aload_n 0, 1) := by decide +kernel
theorem dX12_ring_13 : decode cX12_ring 13 = .ok (.getfield 141, 3) := by decide +kernel
theorem dX12_ring_16 : decode cX12_ring 16 = .ok (.bipush 60, 2) := by decide +kernel
theorem dX12_ring_18 : decode cX12_ring 18 = .ok (.if_icmp .ne 6, 3) := by decide +kernel
theorem dX12_ring_21 : decode cX12_ring 21 = .ok (.bipush (-3), 2) := by decide +kernel
theorem dX12_ring_23 : decode cX12_ring 23 = .ok (.ireturn, 1) := by decide +kernel
theorem dX12_ring_24 : decode cX12_ring 24 = .ok (.aload_n 0, 1) := by decide +kernel
theorem dX12_ring_25 : decode cX12_ring 25 = .ok (.getfield 35, 3) := by decide +kernel
theorem dX12_ring_28 : decode cX12_ring 28 = .ok (.aload_n 0, 1) := by decide +kernel
theorem dX12_ring_29 : decode cX12_ring 29 = .ok (.getfield 141, 3) := by decide +kernel
theorem dX12_ring_32 : decode cX12_ring 32 = .ok (.iload_n 1, 1) := by decide +kernel
theorem dX12_ring_33 : decode cX12_ring 33 = .ok (.iastore, 1) := by decide +kernel
theorem dX12_ring_34 : decode cX12_ring 34 = .ok (.aload_n 0, 1) := by decide +kernel
theorem dX12_ring_35 : decode cX12_ring 35 = .ok (.dup, 1) := by decide +kernel
theorem dX12_ring_36 : decode cX12_ring 36 = .ok (.getfield 141, 3) := by decide +kernel
theorem dX12_ring_39 : decode cX12_ring 39 = .ok (.iconst 1, 1) := by decide +kernel
theorem dX12_ring_40 : decode cX12_ring 40 = .ok (.iadd, 1) := by decide +kernel
theorem dX12_ring_41 : decode cX12_ring 41 = .ok (.putfield 141, 3) := by decide +kernel
theorem dX12_ring_44 : decode cX12_ring 44 = .ok (.aload_n 0, 1) := by decide +kernel
theorem dX12_ring_45 : decode cX12_ring 45 = .ok (.getfield 141, 3) := by decide +kernel
theorem dX12_ring_48 : decode cX12_ring 48 = .ok (.ireturn, 1) := by decide +kernel
set_option maxRecDepth 20000 in
theorem ggX12_living_X12_in : GoodIn wsX12_living wsX12_in := goodIn_r _ [6] (by decide +kernel) (by decide +kernel)
set_option maxRecDepth 20000 in
theorem gX12_living_X12_in : GoodIn wsX12_living (va_wsS RX12 86 yX12_in wsX12_in) := goodIn_app (goodIn_of _ (by decide +kernel)) ggX12_living_X12_in
theorem dX12_living_0 : decode cX12_living 0 = .ok (.iload_n 1, 1) := by decide +kernel
theorem dX12_living_1 : decode cX12_living 1 = .ok (.iconst 0, 1) := by decide +kernel
theorem dX12_living_2 : decode cX12_living 2 = .ok (.sipush 9999, 3) := by decide +kernel
theorem dX12_living_5 : decode cX12_living 5 = .ok (.invokestatic 86, 3) := by decide +kernel
theorem dX12_living_8 : decode cX12_living 8 = .ok (.ifCond .ne 5, 3) := by decide +kernel
theorem dX12_living_11 : decode cX12_living 11 = .ok (.iconst (-1), 1) := by decide +kernel
theorem dX12_living_12 : decode cX12_living 12 = .ok (.ireturn, 1) := by decide +kernel
theorem dX12_living_13 : decode cX12_living 13 = .ok (.aload_n 0, 1) := by decide +kernel
theorem dX12_living_14 : decode cX12_living 14 = .ok (.getfield 141, 3) := by decide +kernel
theorem dX12_living_17 : decode cX12_living 17 = .ok (.istore_n 2, 1) := by decide +kernel
theorem dX12_living_18 : decode cX12_living 18 = .ok (.aload_n 0, 1) := by decide +kernel
theorem dX12_living_19 : decode cX12_living 19 = .ok (.iload_n 1, 1) := by decide +kernel
theorem dX12_living_20 : decode cX12_living 20 = .ok (.putfield 82, 3) := by decide +kernel
theorem dX12_living_23 : decode cX12_living 23 = .ok (.aload_n 0, 1) := by decide +kernel
theorem dX12_living_24 : decode cX12_living 24 = .ok (.iconst 0, 1) := by decide +kernel
theorem dX12_living_25 : decode cX12_living 25 = .ok (.putfield 141, 3) := by decide +kernel
theorem dX12_living_28 : decode cX12_living 28 = .ok (.iload_n 2, 1) := by decide +kernel
theorem dX12_living_29 : decode cX12_living 29 = .ok (.ireturn, 1) := by decide +kernel
set_option maxRecDepth 20000 in
theorem ggX12_isWood_X12_in : GoodIn wsX12_isWood wsX12_in := goodIn_r _ [4] (by decide +kernel) (by decide +kernel)
set_option maxRecDepth 20000 in
theorem gX12_isWood_X12_in : GoodIn wsX12_isWood (va_wsS RX12 86 yX12_in wsX12_in) := goodIn_app (goodIn_of _ (by decide +kernel)) ggX12_isWood_X12_in
theorem dX12_isWood_0 : decode cX12_isWood 0 = .ok (.iload_n 0, 1) := by decide +kernel
theorem dX12_isWood_1 : decode cX12_isWood 1 = .ok (.iconst 0, 1) := by decide +kernel
theorem dX12_isWood_2 : decode cX12_isWood 2 = .ok (.iconst 3, 1) := by decide +kernel
theorem dX12_isWood_3 : decode cX12_isWood 3 = .ok (.invokestatic 86, 3) := by decide +kernel
theorem dX12_isWood_6 : decode cX12_isWood 6 = .ok (.ireturn, 1) := by decide +kernel
set_option maxRecDepth 20000 in
theorem ggX12_wood_X12_isWood : GoodIn wsX12_wood wsX12_isWood := goodIn_r _ [6, 7, 8, 5, 9] (by decide +kernel) (by decide +kernel)
set_option maxRecDepth 20000 in
theorem gX12_wood_X12_isWood : GoodIn wsX12_wood (va_wsS RX12 144 yX12_isWood wsX12_isWood) := goodIn_app (goodIn_of _ (by decide +kernel)) ggX12_wood_X12_isWood
set_option maxRecDepth 20000 in
theorem ggX12_wood_X12_in : GoodIn wsX12_wood wsX12_in := goodIn_r _ [9] (by decide +kernel) (by decide +kernel)
set_option maxRecDepth 20000 in
theorem gX12_wood_X12_in : GoodIn wsX12_wood (va_wsS RX12 86 yX12_in wsX12_in) := goodIn_app (goodIn_of _ (by decide +kernel)) ggX12_wood_X12_in
theorem dX12_wood_0 : decode cX12_wood 0 = .ok (.iload_n 1, 1) := by decide +kernel
theorem dX12_wood_1 : decode cX12_wood 1 = .ok (.invokestatic 144, 3) := by decide +kernel
theorem dX12_wood_4 : decode cX12_wood 4 = .ok (.ifCond .eq 13, 3) := by decide +kernel
theorem dX12_wood_7 : decode cX12_wood 7 = .ok (.iload_n 2, 1) := by decide +kernel
theorem dX12_wood_8 : decode cX12_wood 8 = .ok (.iconst 0, 1) := by decide +kernel
theorem dX12_wood_9 : decode cX12_wood 9 = .ok (.bipush 99, 2) := by decide +kernel
theorem dX12_wood_11 : decode cX12_wood 11 = .ok (.invokestatic 86, 3) := by decide +kernel
theorem dX12_wood_14 : decode cX12_wood 14 = .ok (.ifCond .ne 5, 3) := by decide +kernel
theorem dX12_wood_17 : decode cX12_wood 17 = .ok (.iconst (-1), 1) := by decide +kernel
theorem dX12_wood_18 : decode cX12_wood 18 = .ok (.ireturn, 1) := by decide +kernel
theorem dX12_wood_19 : decode cX12_wood 19 = .ok (.aload_n 0, 1) := by decide +kernel
theorem dX12_wood_20 : decode cX12_wood 20 = .ok (.getfield 38, 3) := by decide +kernel
theorem dX12_wood_23 : decode cX12_wood 23 = .ok (.iload_n 1, 1) := by decide +kernel
theorem dX12_wood_24 : decode cX12_wood 24 = .ok (.iaload, 1) := by decide +kernel
theorem dX12_wood_25 : decode cX12_wood 25 = .ok (.bipush 30, 2) := by decide +kernel
theorem dX12_wood_27 : decode cX12_wood 27 = .ok (.if_icmp .ne 6, 3) := by decide +kernel
theorem dX12_wood_30 : decode cX12_wood 30 = .ok (.bipush (-3), 2) := by decide +kernel
theorem dX12_wood_32 : decode cX12_wood 32 = .ok (.ireturn, 1) := by decide +kernel
theorem dX12_wood_33 : decode cX12_wood 33 = .ok (.aload_n 0, 1) := by decide +kernel
theorem dX12_wood_34 : decode cX12_wood 34 = .ok (.getfield 44, 3) := by decide +kernel
theorem dX12_wood_37 : decode cX12_wood 37 = .ok (.bipush 30, 2) := by decide +kernel
theorem dX12_wood_39 : decode cX12_wood 39 = .ok (.iload_n 1, 1) := by decide +kernel
theorem dX12_wood_40 : decode cX12_wood 40 = .ok (.imul, 1) := by decide +kernel
theorem dX12_wood_41 : decode cX12_wood 41 = .ok (.aload_n 0, 1) := by decide +kernel
theorem dX12_wood_42 : decode cX12_wood 42 = .ok (.getfield 38, 3) := by decide +kernel
theorem dX12_wood_45 : decode cX12_wood 45 = .ok (.iload_n 1, 1) := by decide +kernel
theorem dX12_wood_46 : decode cX12_wood 46 = .ok (.iaload, 1) := by decide +kernel
theorem dX12_wood_47 : decode cX12_wood 47 = .ok (.iadd, 1) := by decide +kernel
theorem dX12_wood_48 : decode cX12_wood 48 = .ok (.iload_n 2, 1) := by decide +kernel
theorem dX12_wood_49 : decode cX12_wood 49 = .ok (.iastore, 1) := by decide +kernel
theorem dX12_wood_50 : decode cX12_wood 50 = .ok (.aload_n 0, 1) := by decide +kernel
theorem dX12_wood_51 : decode cX12_wood 51 = .ok (.getfield 38, 3) := by decide +kernel
theorem dX12_wood_54 : decode cX12_wood 54 = .ok (.iload_n 1, 1) := by decide +kernel
theorem dX12_wood_55 : decode cX12_wood 55 = .ok (.dup2, 1) := by decide +kernel
theorem dX12_wood_56 : decode cX12_wood 56 = .ok (.iaload, 1) := by decide +kernel
theorem dX12_wood_57 : decode cX12_wood 57 = .ok (.iconst 1, 1) := by decide +kernel
theorem dX12_wood_58 : decode cX12_wood 58 = .ok (.iadd, 1) := by decide +kernel
theorem dX12_wood_59 : decode cX12_wood 59 = .ok (.iastore, 1) := by decide +kernel
theorem dX12_wood_60 : decode cX12_wood 60 = .ok (.aload_n 0, 1) := by decide +kernel
theorem dX12_wood_61 : decode cX12_wood 61 = .ok (.getfield 38, 3) := by decide +kernel
theorem dX12_wood_64 : decode cX12_wood 64 = .ok (.iload_n 1, 1) := by decide +kernel
theorem dX12_wood_65 : decode cX12_wood 65 = .ok (.iaload, 1) := by decide +kernel
theorem dX12_wood_66 : decode cX12_wood 66 = .ok (.ireturn, 1) := by decide +kernel
set_option maxRecDepth 20000 in
theorem ggX12_felled_X12_isWood : GoodIn wsX12_felled wsX12_isWood := goodIn_r _ [6, 7, 8, 5, 9] (by decide +kernel) (by decide +kernel)
set_option maxRecDepth 20000 in
theorem gX12_felled_X12_isWood : GoodIn wsX12_felled (va_wsS RX12 144 yX12_isWood wsX12_isWood) := goodIn_app (goodIn_of _ (by decide +kernel)) ggX12_felled_X12_isWood
set_option maxRecDepth 20000 in
theorem ggX12_felled_X12_in : GoodIn wsX12_felled wsX12_in := goodIn_r _ [9] (by decide +kernel) (by decide +kernel)
set_option maxRecDepth 20000 in
theorem gX12_felled_X12_in : GoodIn wsX12_felled (va_wsS RX12 86 yX12_in wsX12_in) := goodIn_app (goodIn_of _ (by decide +kernel)) ggX12_felled_X12_in
theorem dX12_felled_0 : decode cX12_felled 0 = .ok (.iload_n 1, 1) := by decide +kernel
theorem dX12_felled_1 : decode cX12_felled 1 = .ok (.invokestatic 144, 3) := by decide +kernel
theorem dX12_felled_4 : decode cX12_felled 4 = .ok (.ifCond .eq 12, 3) := by decide +kernel
theorem dX12_felled_7 : decode cX12_felled 7 = .ok (.iload_n 2, 1) := by decide +kernel
theorem dX12_felled_8 : decode cX12_felled 8 = .ok (.iconst 0, 1) := by decide +kernel
theorem dX12_felled_9 : decode cX12_felled 9 = .ok (.iconst 1, 1) := by decide +kernel
theorem dX12_felled_10 : decode cX12_felled 10 = .ok (.invokestatic 86, 3) := by decide +kernel
theorem dX12_felled_13 : decode cX12_felled 13 = .ok (.ifCond .ne 5, 3) := by decide +kernel
theorem dX12_felled_16 : decode cX12_felled 16 = .ok (.iconst (-1), 1) := by decide +kernel
theorem dX12_felled_17 : decode cX12_felled 17 = .ok (.ireturn, 1) := by decide +kernel
theorem dX12_felled_18 : decode cX12_felled 18 = .ok (.aload_n 0, 1) := by decide +kernel
theorem dX12_felled_19 : decode cX12_felled 19 = .ok (.getfield 38, 3) := by decide +kernel
theorem dX12_felled_22 : decode cX12_felled 22 = .ok (.iload_n 1, 1) := by decide +kernel
theorem dX12_felled_23 : decode cX12_felled 23 = .ok (.iaload, 1) := by decide +kernel
theorem dX12_felled_24 : decode cX12_felled 24 = .ok (.istore_n 3, 1) := by decide +kernel
theorem dX12_felled_25 : decode cX12_felled 25 = .ok (.aload_n 0, 1) := by decide +kernel
theorem dX12_felled_26 : decode cX12_felled 26 = .ok (.getfield 38, 3) := by decide +kernel
theorem dX12_felled_29 : decode cX12_felled 29 = .ok (.iload_n 1, 1) := by decide +kernel
theorem dX12_felled_30 : decode cX12_felled 30 = .ok (.iconst 0, 1) := by decide +kernel
theorem dX12_felled_31 : decode cX12_felled 31 = .ok (.iastore, 1) := by decide +kernel
theorem dX12_felled_32 : decode cX12_felled 32 = .ok (.aload_n 0, 1) := by decide +kernel
theorem dX12_felled_33 : decode cX12_felled 33 = .ok (.getfield 41, 3) := by decide +kernel
theorem dX12_felled_36 : decode cX12_felled 36 = .ok (.iload_n 1, 1) := by decide +kernel
theorem dX12_felled_37 : decode cX12_felled 37 = .ok (.iload_n 2, 1) := by decide +kernel
theorem dX12_felled_38 : decode cX12_felled 38 = .ok (.iastore, 1) := by decide +kernel
theorem dX12_felled_39 : decode cX12_felled 39 = .ok (.iload_n 3, 1) := by decide +kernel
theorem dX12_felled_40 : decode cX12_felled 40 = .ok (.ireturn, 1) := by decide +kernel
theorem dX12_likeOf_0 : decode cX12_likeOf 0 = .ok (.iconst 0, 1) := by decide +kernel
theorem dX12_likeOf_1 : decode cX12_likeOf 1 = .ok (.istore_n 3, 1) := by decide +kernel
theorem dX12_likeOf_2 : decode cX12_likeOf 2 = .ok (.iconst 1, 1) := by decide +kernel
theorem dX12_likeOf_3 : decode cX12_likeOf 3 = .ok (.istore 4, 2) := by decide +kernel
theorem dX12_likeOf_5 : decode cX12_likeOf 5 = .ok (.iload 4, 2) := by decide +kernel
theorem dX12_likeOf_7 : decode cX12_likeOf 7 = .ok (.aload_n 0, 1) := by decide +kernel
theorem dX12_likeOf_8 : decode cX12_likeOf 8 = .ok (.getfield 38, 3) := by decide +kernel
theorem dX12_likeOf_11 : decode cX12_likeOf 11 = .ok (.iload_n 1, 1) := by decide +kernel
theorem dX12_likeOf_12 : decode cX12_likeOf 12 = .ok (.iaload, 1) := by decide +kernel
theorem dX12_likeOf_13 : decode cX12_likeOf 13 = .ok (.if_icmp .ge 115, 3) := by decide +kernel
theorem dX12_likeOf_16 : decode cX12_likeOf 16 = .ok (.aload_n 0, 1) := by decide +kernel
theorem dX12_likeOf_17 : decode cX12_likeOf 17 = .ok (.getfield 44, 3) := by decide +kernel
theorem dX12_likeOf_20 : decode cX12_likeOf 20 = .ok (.bipush 30, 2) := by decide +kernel
theorem dX12_likeOf_22 : decode cX12_likeOf 22 = .ok (.iload_n 1, 1) := by decide +kernel
theorem dX12_likeOf_23 : decode cX12_likeOf 23 = .ok (.imul, 1) := by decide +kernel
theorem dX12_likeOf_24 : decode cX12_likeOf 24 = .ok (.iload 4, 2) := by decide +kernel
theorem dX12_likeOf_26 : decode cX12_likeOf 26 = .ok (.iadd, 1) := by decide +kernel
theorem dX12_likeOf_27 : decode cX12_likeOf 27 = .ok (.iaload, 1) := by decide +kernel
theorem dX12_likeOf_28 : decode cX12_likeOf 28 = .ok (.aload_n 0, 1) := by decide +kernel
theorem dX12_likeOf_29 : decode cX12_likeOf 29 = .ok (.getfield 44, 3) := by decide +kernel
theorem dX12_likeOf_32 : decode cX12_likeOf 32 = .ok (.bipush 30, 2) := by decide +kernel
theorem dX12_likeOf_34 : decode cX12_likeOf 34 = .ok (.iload_n 1, 1) := by decide +kernel
theorem dX12_likeOf_35 : decode cX12_likeOf 35 = .ok (.imul, 1) := by decide +kernel
theorem dX12_likeOf_36 : decode cX12_likeOf 36 = .ok (.iload 4, 2) := by decide +kernel
theorem dX12_likeOf_38 : decode cX12_likeOf 38 = .ok (.iadd, 1) := by decide +kernel
theorem dX12_likeOf_39 : decode cX12_likeOf 39 = .ok (.iconst 1, 1) := by decide +kernel
theorem dX12_likeOf_40 : decode cX12_likeOf 40 = .ok (.isub, 1) := by decide +kernel
theorem dX12_likeOf_41 : decode cX12_likeOf 41 = .ok (.iaload, 1) := by decide +kernel
theorem dX12_likeOf_42 : decode cX12_likeOf 42 = .ok (.isub, 1) := by decide +kernel
theorem dX12_likeOf_43 : decode cX12_likeOf 43 = .ok (.istore 5, 2) := by decide +kernel
theorem dX12_likeOf_45 : decode cX12_likeOf 45 = .ok (.aload_n 0, 1) := by decide +kernel
theorem dX12_likeOf_46 : decode cX12_likeOf 46 = .ok (.getfield 35, 3) := by decide +kernel
theorem dX12_likeOf_49 : decode cX12_likeOf 49 = .ok (.iload_n 2, 1) := by decide +kernel
theorem dX12_likeOf_50 : decode cX12_likeOf 50 = .ok (.iload 4, 2) := by decide +kernel
theorem dX12_likeOf_52 : decode cX12_likeOf 52 = .ok (.iadd, 1) := by decide +kernel
theorem dX12_likeOf_53 : decode cX12_likeOf 53 = .ok (.iaload, 1) := by decide +kernel
theorem dX12_likeOf_54 : decode cX12_likeOf 54 = .ok (.aload_n 0, 1) := by decide +kernel
theorem dX12_likeOf_55 : decode cX12_likeOf 55 = .ok (.getfield 35, 3) := by decide +kernel
theorem dX12_likeOf_58 : decode cX12_likeOf 58 = .ok (.iload_n 2, 1) := by decide +kernel
theorem dX12_likeOf_59 : decode cX12_likeOf 59 = .ok (.iload 4, 2) := by decide +kernel
theorem dX12_likeOf_61 : decode cX12_likeOf 61 = .ok (.iadd, 1) := by decide +kernel
theorem dX12_likeOf_62 : decode cX12_likeOf 62 = .ok (.iconst 1, 1) := by decide +kernel
theorem dX12_likeOf_63 : decode cX12_likeOf 63 = .ok (.isub, 1) := by decide +kernel
theorem dX12_likeOf_64 : decode cX12_likeOf 64 = .ok (.iaload, 1) := by decide +kernel
theorem dX12_likeOf_65 : decode cX12_likeOf 65 = .ok (.isub, 1) := by decide +kernel
theorem dX12_likeOf_66 : decode cX12_likeOf 66 = .ok (.istore 6, 2) := by decide +kernel
theorem dX12_likeOf_68 : decode cX12_likeOf 68 = .ok (.iload_n 3, 1) := by decide +kernel
theorem dX12_likeOf_69 : decode cX12_likeOf 69 = .ok (.iload 5, 2) := by decide +kernel
theorem dX12_likeOf_71 : decode cX12_likeOf 71 = .ok (.ifCond .le 7, 3) := by decide +kernel
theorem dX12_likeOf_74 : decode cX12_likeOf 74 = .ok (.iconst 1, 1) := by decide +kernel
theorem dX12_likeOf_75 : decode cX12_likeOf 75 = .ok (.goto 4, 3) := by decide +kernel
theorem dX12_likeOf_78 : decode cX12_likeOf 78 = .ok (.iconst 0, 1) := by decide +kernel
theorem dX12_likeOf_79 : decode cX12_likeOf 79 = .ok (.iload 6, 2) := by decide +kernel
theorem dX12_likeOf_81 : decode cX12_likeOf 81 = .ok (.ifCond .le 7, 3) := by decide +kernel
theorem dX12_likeOf_84 : decode cX12_likeOf 84 = .ok (.iconst 1, 1) := by decide +kernel
theorem dX12_likeOf_85 : decode cX12_likeOf 85 = .ok (.goto 4, 3) := by decide +kernel
theorem dX12_likeOf_88 : decode cX12_likeOf 88 = .ok (.iconst 0, 1) := by decide +kernel
theorem dX12_likeOf_89 : decode cX12_likeOf 89 = .ok (.if_icmp .ne 30, 3) := by decide +kernel
theorem dX12_likeOf_92 : decode cX12_likeOf 92 = .ok (.iload 5, 2) := by decide +kernel
theorem dX12_likeOf_94 : decode cX12_likeOf 94 = .ok (.ifCond .ge 7, 3) := by decide +kernel
theorem dX12_likeOf_97 : decode cX12_likeOf 97 = .ok (.iconst 1, 1) := by decide +kernel
theorem dX12_likeOf_98 : decode cX12_likeOf 98 = .ok (.goto 4, 3) := by decide +kernel
theorem dX12_likeOf_101 : decode cX12_likeOf 101 = .ok (.iconst 0, 1) := by decide +kernel
theorem dX12_likeOf_102 : decode cX12_likeOf 102 = .ok (.iload 6, 2) := by decide +kernel
theorem dX12_likeOf_104 : decode cX12_likeOf 104 = .ok (.ifCond .ge 7, 3) := by decide +kernel
theorem dX12_likeOf_107 : decode cX12_likeOf 107 = .ok (.iconst 1, 1) := by decide +kernel
theorem dX12_likeOf_108 : decode cX12_likeOf 108 = .ok (.goto 4, 3) := by decide +kernel
theorem dX12_likeOf_111 : decode cX12_likeOf 111 = .ok (.iconst 0, 1) := by decide +kernel
theorem dX12_likeOf_112 : decode cX12_likeOf 112 = .ok (.if_icmp .ne 7, 3) := by decide +kernel
theorem dX12_likeOf_115 : decode cX12_likeOf 115 = .ok (.iconst 1, 1) := by decide +kernel
theorem dX12_likeOf_116 : decode cX12_likeOf 116 = .ok (.goto 4, 3) := by decide +kernel
theorem dX12_likeOf_119 : decode cX12_likeOf 119 = .ok (.iconst 0, 1) := by decide +kernel
theorem dX12_likeOf_120 : decode cX12_likeOf 120 = .ok (.iadd, 1) := by decide +kernel
theorem dX12_likeOf_121 : decode cX12_likeOf 121 = .ok (.istore_n 3, 1) := by decide +kernel
theorem dX12_likeOf_122 : decode cX12_likeOf 122 = .ok (.iinc 4 1, 3) := by decide +kernel
theorem dX12_likeOf_125 : decode cX12_likeOf 125 = .ok (.goto (-120), 3) := by decide +kernel
theorem dX12_likeOf_128 : decode cX12_likeOf 128 = .ok (.iload_n 3, 1) := by decide +kernel
theorem dX12_likeOf_129 : decode cX12_likeOf 129 = .ok (.ireturn, 1) := by decide +kernel
set_option maxRecDepth 20000 in
theorem ggX12_like_X12_isWood : GoodIn wsX12_like wsX12_isWood := goodIn_r _ [6, 7, 8, 5, 9] (by decide +kernel) (by decide +kernel)
set_option maxRecDepth 20000 in
theorem gX12_like_X12_isWood : GoodIn wsX12_like (va_wsS RX12 144 yX12_isWood wsX12_isWood) := goodIn_app (goodIn_of _ (by decide +kernel)) ggX12_like_X12_isWood
set_option maxRecDepth 20000 in
theorem ggX12_like_X12_in : GoodIn wsX12_like wsX12_in := goodIn_r _ [9] (by decide +kernel) (by decide +kernel)
set_option maxRecDepth 20000 in
theorem gX12_like_X12_in : GoodIn wsX12_like (va_wsS RX12 86 yX12_in wsX12_in) := goodIn_app (goodIn_of _ (by decide +kernel)) ggX12_like_X12_in
set_option maxRecDepth 20000 in
theorem ggX12_like_X12_likeOf : GoodIn wsX12_like wsX12_likeOf := goodIn_r _ [13, 1, 14, 15, 16, 17, 18, 19, 20, 21, 22, 23, 24, 25, 26, 27, 28, 29, 30, 31, 32, 33, 34, 35, 36, 37, 38, 39, 40, 41, 42, 43, 44] (by decide +kernel) (by decide +kernel)
set_option maxRecDepth 20000 in
theorem gX12_like_X12_likeOf : GoodIn wsX12_like (wsV RX12 147 RX12 yX12_likeOf wsX12_likeOf) := goodIn_app (goodIn_of _ (by decide +kernel)) ggX12_like_X12_likeOf
theorem dX12_like_0 : decode cX12_like 0 = .ok (.iload_n 1, 1) := by decide +kernel
theorem dX12_like_1 : decode cX12_like 1 = .ok (.invokestatic 144, 3) := by decide +kernel
theorem dX12_like_4 : decode cX12_like 4 = .ok (.ifCond .eq 41, 3) := by decide +kernel
theorem dX12_like_7 : decode cX12_like 7 = .ok (.aload_n 0, 1) := by decide +kernel
theorem dX12_like_8 : decode cX12_like 8 = .ok (.getfield 38, 3) := by decide +kernel
theorem dX12_like_11 : decode cX12_like 11 = .ok (.iload_n 1, 1) := by decide +kernel
theorem dX12_like_12 : decode cX12_like 12 = .ok (.iaload, 1) := by decide +kernel
theorem dX12_like_13 : decode cX12_like 13 = .ok (.iconst 1, 1) := by decide +kernel
theorem dX12_like_14 : decode cX12_like 14 = .ok (.if_icmp .le 31, 3) := by decide +kernel
theorem dX12_like_17 : decode cX12_like 17 = .ok (.iload_n 2, 1) := by decide +kernel
