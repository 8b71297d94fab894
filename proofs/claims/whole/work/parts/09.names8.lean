theorem dX12_dig_108 : decode cX12_dig 108 = .ok (.laload, 1) := by decide +kernel
theorem dX12_dig_109 : decode cX12_dig 109 = .ok (.bipush 10, 2) := by decide +kernel
theorem dX12_dig_111 : decode cX12_dig 111 = .ok (.iload 10, 2) := by decide +kernel
theorem dX12_dig_113 : decode cX12_dig 113 = .ok (.isub, 1) := by decide +kernel
theorem dX12_dig_114 : decode cX12_dig 114 = .ok (.i2l, 1) := by decide +kernel
theorem dX12_dig_115 : decode cX12_dig 115 = .ok (.lmul, 1) := by decide +kernel
theorem dX12_dig_116 : decode cX12_dig 116 = .ok (.goto 5, 3) := by decide +kernel
theorem dX12_dig_119 : decode cX12_dig 119 = .ok (.lload 7, 2) := by decide +kernel
theorem dX12_dig_121 : decode cX12_dig 121 = .ok (.lstore 7, 2) := by decide +kernel
theorem dX12_dig_123 : decode cX12_dig 123 = .ok (.iinc 9 1, 3) := by decide +kernel
theorem dX12_dig_126 : decode cX12_dig 126 = .ok (.goto (-100), 3) := by decide +kernel
theorem dX12_dig_129 : decode cX12_dig 129 = .ok (.aload_n 0, 1) := by decide +kernel
theorem dX12_dig_130 : decode cX12_dig 130 = .ok (.getfield 72, 3) := by decide +kernel
theorem dX12_dig_133 : decode cX12_dig 133 = .ok (.iconst 0, 1) := by decide +kernel
theorem dX12_dig_134 : decode cX12_dig 134 = .ok (.iaload, 1) := by decide +kernel
theorem dX12_dig_135 : decode cX12_dig 135 = .ok (.iload 4, 2) := by decide +kernel
theorem dX12_dig_137 : decode cX12_dig 137 = .ok (.ishr, 1) := by decide +kernel
theorem dX12_dig_138 : decode cX12_dig 138 = .ok (.iconst 1, 1) := by decide +kernel
theorem dX12_dig_139 : decode cX12_dig 139 = .ok (.iand, 1) := by decide +kernel
theorem dX12_dig_140 : decode cX12_dig 140 = .ok (.ifCond .ne 17, 3) := by decide +kernel
theorem dX12_dig_143 : decode cX12_dig 143 = .ok (.lload 5, 2) := by decide +kernel
theorem dX12_dig_145 : decode cX12_dig 145 = .ok (.lload 7, 2) := by decide +kernel
theorem dX12_dig_147 : decode cX12_dig 147 = .ok (.ladd, 1) := by decide +kernel
theorem dX12_dig_148 : decode cX12_dig 148 = .ok (.lload_n 2, 1) := by decide +kernel
theorem dX12_dig_149 : decode cX12_dig 149 = .ok (.lcmp, 1) := by decide +kernel
theorem dX12_dig_150 : decode cX12_dig 150 = .ok (.ifCond .le 7, 3) := by decide +kernel
theorem dX12_dig_153 : decode cX12_dig 153 = .ok (.iconst 1, 1) := by decide +kernel
theorem dX12_dig_154 : decode cX12_dig 154 = .ok (.goto 4, 3) := by decide +kernel
theorem dX12_dig_157 : decode cX12_dig 157 = .ok (.iconst 0, 1) := by decide +kernel
theorem dX12_dig_158 : decode cX12_dig 158 = .ok (.istore 9, 2) := by decide +kernel
theorem dX12_dig_160 : decode cX12_dig 160 = .ok (.iload 9, 2) := by decide +kernel
theorem dX12_dig_162 : decode cX12_dig 162 = .ok (.ifCond .eq 8, 3) := by decide +kernel
theorem dX12_dig_165 : decode cX12_dig 165 = .ok (.iload 4, 2) := by decide +kernel
theorem dX12_dig_167 : decode cX12_dig 167 = .ok (.goto 4, 3) := by decide +kernel
theorem dX12_dig_170 : decode cX12_dig 170 = .ok (.iload_n 1, 1) := by decide +kernel
theorem dX12_dig_171 : decode cX12_dig 171 = .ok (.istore_n 1, 1) := by decide +kernel
theorem dX12_dig_172 : decode cX12_dig 172 = .ok (.iload 9, 2) := by decide +kernel
theorem dX12_dig_174 : decode cX12_dig 174 = .ok (.ifCond .eq 11, 3) := by decide +kernel
theorem dX12_dig_177 : decode cX12_dig 177 = .ok (.lload 5, 2) := by decide +kernel
theorem dX12_dig_179 : decode cX12_dig 179 = .ok (.lload 7, 2) := by decide +kernel
theorem dX12_dig_181 : decode cX12_dig 181 = .ok (.ladd, 1) := by decide +kernel
theorem dX12_dig_182 : decode cX12_dig 182 = .ok (.goto 4, 3) := by decide +kernel
theorem dX12_dig_185 : decode cX12_dig 185 = .ok (.lload_n 2, 1) := by decide +kernel
theorem dX12_dig_186 : decode cX12_dig 186 = .ok (.lstore_n 2, 1) := by decide +kernel
theorem dX12_dig_187 : decode cX12_dig 187 = .ok (.iinc 4 1, 3) := by decide +kernel
theorem dX12_dig_190 : decode cX12_dig 190 = .ok (.goto (-180), 3) := by decide +kernel
theorem dX12_dig_193 : decode cX12_dig 193 = .ok (.iload_n 1, 1) := by decide +kernel
theorem dX12_dig_194 : decode cX12_dig 194 = .ok (.ireturn, 1) := by decide +kernel
set_option maxRecDepth 20000 in
theorem ggX12_minutes_X12_isSea : GoodIn wsX12_minutes wsX12_isSea := goodIn_r _ [9, 3, 10, 11, 8, 12, 13, 14, 15, 25, 26, 27, 28, 29, 30, 31, 32, 33, 34, 35, 36, 37, 38, 39, 40, 41, 42, 43, 44, 45, 46, 47, 48, 49, 50, 51, 52, 53] (by decide +kernel) (by decide +kernel)
set_option maxRecDepth 20000 in
theorem gX12_minutes_X12_isSea : GoodIn wsX12_minutes (wsV RX12 119 RX12 yX12_isSea wsX12_isSea) := goodIn_app (goodIn_of _ (by decide +kernel)) ggX12_minutes_X12_isSea
set_option maxRecDepth 20000 in
theorem ggX12_minutes_X12_in : GoodIn wsX12_minutes wsX12_in := goodIn_r _ [15] (by decide +kernel) (by decide +kernel)
set_option maxRecDepth 20000 in
theorem gX12_minutes_X12_in : GoodIn wsX12_minutes (va_wsS RX12 86 yX12_in wsX12_in) := goodIn_app (goodIn_of _ (by decide +kernel)) ggX12_minutes_X12_in
set_option maxRecDepth 20000 in
theorem ggX12_minutes_X12_spread : GoodIn wsX12_minutes wsX12_spread := goodIn_r _ [19, 3, 4, 2, 20, 21, 22, 8, 23, 24, 25, 26, 27, 28, 29, 30, 31, 32, 33, 34, 35, 36, 37, 38, 39, 40, 41, 42, 43, 44, 45, 46, 47, 48, 49, 50, 51, 52, 53] (by decide +kernel) (by decide +kernel)
set_option maxRecDepth 20000 in
theorem gX12_minutes_X12_spread : GoodIn wsX12_minutes (wsV RX12 108 RX12 yX12_spread wsX12_spread) := goodIn_app (goodIn_of _ (by decide +kernel)) ggX12_minutes_X12_spread
theorem dX12_minutes_0 : decode cX12_minutes 0 = .ok (.aload_n 0, 1) := by decide +kernel
theorem dX12_minutes_1 : decode cX12_minutes 1 = .ok (.iload_n 1, 1) := by decide +kernel
theorem dX12_minutes_2 : decode cX12_minutes 2 = .ok (.invokevirtual 119, 3) := by decide +kernel
theorem dX12_minutes_5 : decode cX12_minutes 5 = .ok (.ifCond .eq 23, 3) := by decide +kernel
theorem dX12_minutes_8 : decode cX12_minutes 8 = .ok (.iload_n 2, 1) := by decide +kernel
theorem dX12_minutes_9 : decode cX12_minutes 9 = .ok (.iconst 0, 1) := by decide +kernel
theorem dX12_minutes_10 : decode cX12_minutes 10 = .ok (.ldc 174, 2) := by decide +kernel
theorem dX12_minutes_12 : decode cX12_minutes 12 = .ok (.invokestatic 86, 3) := by decide +kernel
theorem dX12_minutes_15 : decode cX12_minutes 15 = .ok (.ifCond .eq 13, 3) := by decide +kernel
theorem dX12_minutes_18 : decode cX12_minutes 18 = .ok (.iload_n 3, 1) := by decide +kernel
theorem dX12_minutes_19 : decode cX12_minutes 19 = .ok (.iconst 0, 1) := by decide +kernel
theorem dX12_minutes_20 : decode cX12_minutes 20 = .ok (.ldc 174, 2) := by decide +kernel
theorem dX12_minutes_22 : decode cX12_minutes 22 = .ok (.invokestatic 86, 3) := by decide +kernel
theorem dX12_minutes_25 : decode cX12_minutes 25 = .ok (.ifCond .ne 5, 3) := by decide +kernel
theorem dX12_minutes_28 : decode cX12_minutes 28 = .ok (.iconst (-1), 1) := by decide +kernel
theorem dX12_minutes_29 : decode cX12_minutes 29 = .ok (.ireturn, 1) := by decide +kernel
theorem dX12_minutes_30 : decode cX12_minutes 30 = .ok (.iconst 0, 1) := by decide +kernel
theorem dX12_minutes_31 : decode cX12_minutes 31 = .ok (.istore 4, 2) := by decide +kernel
theorem dX12_minutes_33 : decode cX12_minutes 33 = .ok (.iload 4, 2) := by decide +kernel
theorem dX12_minutes_35 : decode cX12_minutes 35 = .ok (.bipush 48, 2) := by decide +kernel
theorem dX12_minutes_37 : decode cX12_minutes 37 = .ok (.if_icmp .ge 65, 3) := by decide +kernel
theorem dX12_minutes_40 : decode cX12_minutes 40 = .ok (.iload 4, 2) := by decide +kernel
theorem dX12_minutes_42 : decode cX12_minutes 42 = .ok (.bipush 24, 2) := by decide +kernel
theorem dX12_minutes_44 : decode cX12_minutes 44 = .ok (.if_icmp .ge 12, 3) := by decide +kernel
theorem dX12_minutes_47 : decode cX12_minutes 47 = .ok (.iload_n 2, 1) := by decide +kernel
theorem dX12_minutes_48 : decode cX12_minutes 48 = .ok (.iload 4, 2) := by decide +kernel
theorem dX12_minutes_50 : decode cX12_minutes 50 = .ok (.ishr, 1) := by decide +kernel
theorem dX12_minutes_51 : decode cX12_minutes 51 = .ok (.iconst 1, 1) := by decide +kernel
theorem dX12_minutes_52 : decode cX12_minutes 52 = .ok (.iand, 1) := by decide +kernel
theorem dX12_minutes_53 : decode cX12_minutes 53 = .ok (.goto 12, 3) := by decide +kernel
theorem dX12_minutes_56 : decode cX12_minutes 56 = .ok (.iload_n 3, 1) := by decide +kernel
theorem dX12_minutes_57 : decode cX12_minutes 57 = .ok (.iload 4, 2) := by decide +kernel
theorem dX12_minutes_59 : decode cX12_minutes 59 = .ok (.bipush 24, 2) := by decide +kernel
theorem dX12_minutes_61 : decode cX12_minutes 61 = .ok (.isub, 1) := by decide +kernel
theorem dX12_minutes_62 : decode cX12_minutes 62 = .ok (.ishr, 1) := by decide +kernel
theorem dX12_minutes_63 : decode cX12_minutes 63 = .ok (.iconst 1, 1) := by decide +kernel
theorem dX12_minutes_64 : decode cX12_minutes 64 = .ok (.iand, 1) := by decide +kernel
theorem dX12_minutes_65 : decode cX12_minutes 65 = .ok (.istore 5, 2) := by decide +kernel
theorem dX12_minutes_67 : decode cX12_minutes 67 = .ok (.aload_n 0, 1) := by decide +kernel
theorem dX12_minutes_68 : decode cX12_minutes 68 = .ok (.getfield 20, 3) := by decide +kernel
theorem dX12_minutes_71 : decode cX12_minutes 71 = .ok (.iload 4, 2) := by decide +kernel
theorem dX12_minutes_73 : decode cX12_minutes 73 = .ok (.iload 5, 2) := by decide +kernel
theorem dX12_minutes_75 : decode cX12_minutes 75 = .ok (.iconst 1, 1) := by decide +kernel
theorem dX12_minutes_76 : decode cX12_minutes 76 = .ok (.if_icmp .ne 17, 3) := by decide +kernel
theorem dX12_minutes_79 : decode cX12_minutes 79 = .ok (.aload_n 0, 1) := by decide +kernel
theorem dX12_minutes_80 : decode cX12_minutes 80 = .ok (.getfield 13, 3) := by decide +kernel
theorem dX12_minutes_83 : decode cX12_minutes 83 = .ok (.iload 4, 2) := by decide +kernel
theorem dX12_minutes_85 : decode cX12_minutes 85 = .ok (.iaload, 1) := by decide +kernel
theorem dX12_minutes_86 : decode cX12_minutes 86 = .ok (.ifCond .le 7, 3) := by decide +kernel
theorem dX12_minutes_89 : decode cX12_minutes 89 = .ok (.iconst 0, 1) := by decide +kernel
theorem dX12_minutes_90 : decode cX12_minutes 90 = .ok (.goto 5, 3) := by decide +kernel
theorem dX12_minutes_93 : decode cX12_minutes 93 = .ok (.ldc 107, 2) := by decide +kernel
theorem dX12_minutes_95 : decode cX12_minutes 95 = .ok (.iastore, 1) := by decide +kernel
theorem dX12_minutes_96 : decode cX12_minutes 96 = .ok (.iinc 4 1, 3) := by decide +kernel
theorem dX12_minutes_99 : decode cX12_minutes 99 = .ok (.goto (-66), 3) := by decide +kernel
theorem dX12_minutes_102 : decode cX12_minutes 102 = .ok (.aload_n 0, 1) := by decide +kernel
theorem dX12_minutes_103 : decode cX12_minutes 103 = .ok (.invokevirtual 108, 3) := by decide +kernel
theorem dX12_minutes_106 : decode cX12_minutes 106 = .ok (.aload_n 0, 1) := by decide +kernel
theorem dX12_minutes_107 : decode cX12_minutes 107 = .ok (.getfield 20, 3) := by decide +kernel
theorem dX12_minutes_110 : decode cX12_minutes 110 = .ok (.iload_n 1, 1) := by decide +kernel
theorem dX12_minutes_111 : decode cX12_minutes 111 = .ok (.iaload, 1) := by decide +kernel
theorem dX12_minutes_112 : decode cX12_minutes 112 = .ok (.ldc 107, 2) := by decide +kernel
theorem dX12_minutes_114 : decode cX12_minutes 114 = .ok (.if_icmp .ne 8, 3) := by decide +kernel
theorem dX12_minutes_117 : decode cX12_minutes 117 = .ok (.bipush (-9), 2) := by decide +kernel
theorem dX12_minutes_119 : decode cX12_minutes 119 = .ok (.goto 9, 3) := by decide +kernel
theorem dX12_minutes_122 : decode cX12_minutes 122 = .ok (.aload_n 0, 1) := by decide +kernel
theorem dX12_minutes_123 : decode cX12_minutes 123 = .ok (.getfield 20, 3) := by decide +kernel
theorem dX12_minutes_126 : decode cX12_minutes 126 = .ok (.iload_n 1, 1) := by decide +kernel
theorem dX12_minutes_127 : decode cX12_minutes 127 = .ok (.iaload, 1) := by decide +kernel
theorem dX12_minutes_128 : decode cX12_minutes 128 = .ok (.ireturn, 1) := by decide +kernel
set_option maxRecDepth 20000 in
theorem ggX12_trust_X12_in : GoodIn wsX12_trust wsX12_in := goodIn_r _ [16] (by decide +kernel) (by decide +kernel)
set_option maxRecDepth 20000 in
theorem gX12_trust_X12_in : GoodIn wsX12_trust (va_wsS RX12 86 yX12_in wsX12_in) := goodIn_app (goodIn_of _ (by decide +kernel)) ggX12_trust_X12_in
set_option maxRecDepth 20000 in
theorem ggX12_trust_X12_bitsIn : GoodIn wsX12_trust wsX12_bitsIn := goodIn_r _ [19] (by decide +kernel) (by decide +kernel)
set_option maxRecDepth 20000 in
theorem gX12_trust_X12_bitsIn : GoodIn wsX12_trust (va_wsS RX12 156 yX12_bitsIn wsX12_bitsIn) := goodIn_app (goodIn_of _ (by decide +kernel)) ggX12_trust_X12_bitsIn
theorem dX12_trust_0 : decode cX12_trust 0 = .ok (.iload_n 1, 1) := by decide +kernel
theorem dX12_trust_1 : decode cX12_trust 1 = .ok (.iconst 0, 1) := by decide +kernel
theorem dX12_trust_2 : decode cX12_trust 2 = .ok (.iconst 5, 1) := by decide +kernel
theorem dX12_trust_3 : decode cX12_trust 3 = .ok (.invokestatic 86, 3) := by decide +kernel
theorem dX12_trust_6 : decode cX12_trust 6 = .ok (.ifCond .eq 19, 3) := by decide +kernel
theorem dX12_trust_9 : decode cX12_trust 9 = .ok (.iload_n 2, 1) := by decide +kernel
theorem dX12_trust_10 : decode cX12_trust 10 = .ok (.iconst 0, 1) := by decide +kernel
theorem dX12_trust_11 : decode cX12_trust 11 = .ok (.aload_n 0, 1) := by decide +kernel
theorem dX12_trust_12 : decode cX12_trust 12 = .ok (.getfield 47, 3) := by decide +kernel
theorem dX12_trust_15 : decode cX12_trust 15 = .ok (.iconst 0, 1) := by decide +kernel
theorem dX12_trust_16 : decode cX12_trust 16 = .ok (.iaload, 1) := by decide +kernel
theorem dX12_trust_17 : decode cX12_trust 17 = .ok (.iconst 1, 1) := by decide +kernel
theorem dX12_trust_18 : decode cX12_trust 18 = .ok (.isub, 1) := by decide +kernel
theorem dX12_trust_19 : decode cX12_trust 19 = .ok (.invokestatic 86, 3) := by decide +kernel
theorem dX12_trust_22 : decode cX12_trust 22 = .ok (.ifCond .ne 6, 3) := by decide +kernel
theorem dX12_trust_25 : decode cX12_trust 25 = .ok (.ldc 122, 2) := by decide +kernel
theorem dX12_trust_27 : decode cX12_trust 27 = .ok (.ireturn, 1) := by decide +kernel
theorem dX12_trust_28 : decode cX12_trust 28 = .ok (.aload_n 0, 1) := by decide +kernel
theorem dX12_trust_29 : decode cX12_trust 29 = .ok (.getfield 50, 3) := by decide +kernel
theorem dX12_trust_32 : decode cX12_trust 32 = .ok (.iload_n 2, 1) := by decide +kernel
theorem dX12_trust_33 : decode cX12_trust 33 = .ok (.iaload, 1) := by decide +kernel
theorem dX12_trust_34 : decode cX12_trust 34 = .ok (.iconst 1, 1) := by decide +kernel
theorem dX12_trust_35 : decode cX12_trust 35 = .ok (.iadd, 1) := by decide +kernel
theorem dX12_trust_36 : decode cX12_trust 36 = .ok (.istore_n 3, 1) := by decide +kernel
theorem dX12_trust_37 : decode cX12_trust 37 = .ok (.iconst 0, 1) := by decide +kernel
theorem dX12_trust_38 : decode cX12_trust 38 = .ok (.istore 4, 2) := by decide +kernel
theorem dX12_trust_40 : decode cX12_trust 40 = .ok (.iconst 0, 1) := by decide +kernel
theorem dX12_trust_41 : decode cX12_trust 41 = .ok (.istore 5, 2) := by decide +kernel
theorem dX12_trust_43 : decode cX12_trust 43 = .ok (.iconst 0, 1) := by decide +kernel
theorem dX12_trust_44 : decode cX12_trust 44 = .ok (.istore 6, 2) := by decide +kernel
theorem dX12_trust_46 : decode cX12_trust 46 = .ok (.iload 6, 2) := by decide +kernel
theorem dX12_trust_48 : decode cX12_trust 48 = .ok (.aload_n 0, 1) := by decide +kernel
theorem dX12_trust_49 : decode cX12_trust 49 = .ok (.getfield 47, 3) := by decide +kernel
theorem dX12_trust_52 : decode cX12_trust 52 = .ok (.iconst 0, 1) := by decide +kernel
theorem dX12_trust_53 : decode cX12_trust 53 = .ok (.iaload, 1) := by decide +kernel
theorem dX12_trust_54 : decode cX12_trust 54 = .ok (.if_icmp .ge 65, 3) := by decide +kernel
theorem dX12_trust_57 : decode cX12_trust 57 = .ok (.iload 4, 2) := by decide +kernel
theorem dX12_trust_59 : decode cX12_trust 59 = .ok (.aload_n 0, 1) := by decide +kernel
theorem dX12_trust_60 : decode cX12_trust 60 = .ok (.getfield 53, 3) := by decide +kernel
theorem dX12_trust_63 : decode cX12_trust 63 = .ok (.iload 6, 2) := by decide +kernel
theorem dX12_trust_65 : decode cX12_trust 65 = .ok (.iaload, 1) := by decide +kernel
theorem dX12_trust_66 : decode cX12_trust 66 = .ok (.aload_n 0, 1) := by decide +kernel
theorem dX12_trust_67 : decode cX12_trust 67 = .ok (.getfield 56, 3) := by decide +kernel
theorem dX12_trust_70 : decode cX12_trust 70 = .ok (.iload_n 2, 1) := by decide +kernel
theorem dX12_trust_71 : decode cX12_trust 71 = .ok (.iaload, 1) := by decide +kernel
theorem dX12_trust_72 : decode cX12_trust 72 = .ok (.if_icmp .gt 23, 3) := by decide +kernel
theorem dX12_trust_75 : decode cX12_trust 75 = .ok (.aload_n 0, 1) := by decide +kernel
theorem dX12_trust_76 : decode cX12_trust 76 = .ok (.getfield 53, 3) := by decide +kernel
theorem dX12_trust_79 : decode cX12_trust 79 = .ok (.iload_n 2, 1) := by decide +kernel
theorem dX12_trust_80 : decode cX12_trust 80 = .ok (.iaload, 1) := by decide +kernel
theorem dX12_trust_81 : decode cX12_trust 81 = .ok (.aload_n 0, 1) := by decide +kernel
theorem dX12_trust_82 : decode cX12_trust 82 = .ok (.getfield 56, 3) := by decide +kernel
theorem dX12_trust_85 : decode cX12_trust 85 = .ok (.iload 6, 2) := by decide +kernel
theorem dX12_trust_87 : decode cX12_trust 87 = .ok (.iaload, 1) := by decide +kernel
theorem dX12_trust_88 : decode cX12_trust 88 = .ok (.if_icmp .gt 7, 3) := by decide +kernel
theorem dX12_trust_91 : decode cX12_trust 91 = .ok (.iconst 1, 1) := by decide +kernel
theorem dX12_trust_92 : decode cX12_trust 92 = .ok (.goto 4, 3) := by decide +kernel
theorem dX12_trust_95 : decode cX12_trust 95 = .ok (.iconst 0, 1) := by decide +kernel
theorem dX12_trust_96 : decode cX12_trust 96 = .ok (.iadd, 1) := by decide +kernel
theorem dX12_trust_97 : decode cX12_trust 97 = .ok (.istore 4, 2) := by decide +kernel
theorem dX12_trust_99 : decode cX12_trust 99 = .ok (.iload 5, 2) := by decide +kernel
theorem dX12_trust_101 : decode cX12_trust 101 = .ok (.iconst 1, 1) := by decide +kernel
theorem dX12_trust_102 : decode cX12_trust 102 = .ok (.aload_n 0, 1) := by decide +kernel
theorem dX12_trust_103 : decode cX12_trust 103 = .ok (.getfield 50, 3) := by decide +kernel
theorem dX12_trust_106 : decode cX12_trust 106 = .ok (.iload 6, 2) := by decide +kernel
theorem dX12_trust_108 : decode cX12_trust 108 = .ok (.iaload, 1) := by decide +kernel
theorem dX12_trust_109 : decode cX12_trust 109 = .ok (.ishl, 1) := by decide +kernel
theorem dX12_trust_110 : decode cX12_trust 110 = .ok (.ior, 1) := by decide +kernel
theorem dX12_trust_111 : decode cX12_trust 111 = .ok (.istore 5, 2) := by decide +kernel
theorem dX12_trust_113 : decode cX12_trust 113 = .ok (.iinc 6 1, 3) := by decide +kernel
theorem dX12_trust_116 : decode cX12_trust 116 = .ok (.goto (-70), 3) := by decide +kernel
theorem dX12_trust_119 : decode cX12_trust 119 = .ok (.iload_n 1, 1) := by decide +kernel
theorem dX12_trust_120 : decode cX12_trust 120 = .ok (.tableswitch 132 0 4 #[36, 48, 65, 86, 109], 36) := by decide +kernel
theorem dX12_trust_156 : decode cX12_trust 156 = .ok (.aload_n 0, 1) := by decide +kernel
theorem dX12_trust_157 : decode cX12_trust 157 = .ok (.dup, 1) := by decide +kernel
theorem dX12_trust_158 : decode cX12_trust 158 = .ok (.getfield 175, 3) := by decide +kernel
theorem dX12_trust_161 : decode cX12_trust 161 = .ok (.lconst 1, 1) := by decide +kernel
theorem dX12_trust_162 : decode cX12_trust 162 = .ok (.ladd, 1) := by decide +kernel
theorem dX12_trust_163 : decode cX12_trust 163 = .ok (.putfield 175, 3) := by decide +kernel
theorem dX12_trust_166 : decode cX12_trust 166 = .ok (.iload_n 3, 1) := by decide +kernel
theorem dX12_trust_167 : decode cX12_trust 167 = .ok (.ireturn, 1) := by decide +kernel
theorem dX12_trust_168 : decode cX12_trust 168 = .ok (.aload_n 0, 1) := by decide +kernel
theorem dX12_trust_169 : decode cX12_trust 169 = .ok (.dup, 1) := by decide +kernel
theorem dX12_trust_170 : decode cX12_trust 170 = .ok (.getfield 175, 3) := by decide +kernel
theorem dX12_trust_173 : decode cX12_trust 173 = .ok (.ldc2_w 179, 3) := by decide +kernel
theorem dX12_trust_176 : decode cX12_trust 176 = .ok (.ladd, 1) := by decide +kernel
theorem dX12_trust_177 : decode cX12_trust 177 = .ok (.putfield 175, 3) := by decide +kernel
theorem dX12_trust_180 : decode cX12_trust 180 = .ok (.iload_n 3, 1) := by decide +kernel
theorem dX12_trust_181 : decode cX12_trust 181 = .ok (.iload 4, 2) := by decide +kernel
theorem dX12_trust_183 : decode cX12_trust 183 = .ok (.iadd, 1) := by decide +kernel
theorem dX12_trust_184 : decode cX12_trust 184 = .ok (.ireturn, 1) := by decide +kernel
theorem dX12_trust_185 : decode cX12_trust 185 = .ok (.aload_n 0, 1) := by decide +kernel
theorem dX12_trust_186 : decode cX12_trust 186 = .ok (.dup, 1) := by decide +kernel
theorem dX12_trust_187 : decode cX12_trust 187 = .ok (.getfield 175, 3) := by decide +kernel
theorem dX12_trust_190 : decode cX12_trust 190 = .ok (.ldc2_w 181, 3) := by decide +kernel
theorem dX12_trust_193 : decode cX12_trust 193 = .ok (.ladd, 1) := by decide +kernel
theorem dX12_trust_194 : decode cX12_trust 194 = .ok (.putfield 175, 3) := by decide +kernel
theorem dX12_trust_197 : decode cX12_trust 197 = .ok (.iload_n 3, 1) := by decide +kernel
theorem dX12_trust_198 : decode cX12_trust 198 = .ok (.aload_n 0, 1) := by decide +kernel
theorem dX12_trust_199 : decode cX12_trust 199 = .ok (.getfield 23, 3) := by decide +kernel
theorem dX12_trust_202 : decode cX12_trust 202 = .ok (.iconst 0, 1) := by decide +kernel
theorem dX12_trust_203 : decode cX12_trust 203 = .ok (.iaload, 1) := by decide +kernel
theorem dX12_trust_204 : decode cX12_trust 204 = .ok (.iadd, 1) := by decide +kernel
theorem dX12_trust_205 : decode cX12_trust 205 = .ok (.ireturn, 1) := by decide +kernel
theorem dX12_trust_206 : decode cX12_trust 206 = .ok (.aload_n 0, 1) := by decide +kernel
theorem dX12_trust_207 : decode cX12_trust 207 = .ok (.dup, 1) := by decide +kernel
theorem dX12_trust_208 : decode cX12_trust 208 = .ok (.getfield 175, 3) := by decide +kernel
theorem dX12_trust_211 : decode cX12_trust 211 = .ok (.ldc2_w 183, 3) := by decide +kernel
theorem dX12_trust_214 : decode cX12_trust 214 = .ok (.ladd, 1) := by decide +kernel
theorem dX12_trust_215 : decode cX12_trust 215 = .ok (.putfield 175, 3) := by decide +kernel
theorem dX12_trust_218 : decode cX12_trust 218 = .ok (.iload_n 3, 1) := by decide +kernel
theorem dX12_trust_219 : decode cX12_trust 219 = .ok (.iload 4, 2) := by decide +kernel
theorem dX12_trust_221 : decode cX12_trust 221 = .ok (.iadd, 1) := by decide +kernel
theorem dX12_trust_222 : decode cX12_trust 222 = .ok (.iload 5, 2) := by decide +kernel
theorem dX12_trust_224 : decode cX12_trust 224 = .ok (.invokestatic 156, 3) := by decide +kernel
theorem dX12_trust_227 : decode cX12_trust 227 = .ok (.imul, 1) := by decide +kernel
theorem dX12_trust_228 : decode cX12_trust 228 = .ok (.ireturn, 1) := by decide +kernel
theorem dX12_trust_229 : decode cX12_trust 229 = .ok (.aload_n 0, 1) := by decide +kernel
theorem dX12_trust_230 : decode cX12_trust 230 = .ok (.dup, 1) := by decide +kernel
theorem dX12_trust_231 : decode cX12_trust 231 = .ok (.getfield 175, 3) := by decide +kernel
theorem dX12_trust_234 : decode cX12_trust 234 = .ok (.ldc2_w 185, 3) := by decide +kernel
theorem dX12_trust_237 : decode cX12_trust 237 = .ok (.ladd, 1) := by decide +kernel
theorem dX12_trust_238 : decode cX12_trust 238 = .ok (.putfield 175, 3) := by decide +kernel
theorem dX12_trust_241 : decode cX12_trust 241 = .ok (.iconst 2, 1) := by decide +kernel
theorem dX12_trust_242 : decode cX12_trust 242 = .ok (.iload_n 3, 1) := by decide +kernel
theorem dX12_trust_243 : decode cX12_trust 243 = .ok (.aload_n 0, 1) := by decide +kernel
theorem dX12_trust_244 : decode cX12_trust 244 = .ok (.getfield 23, 3) := by decide +kernel
theorem dX12_trust_247 : decode cX12_trust 247 = .ok (.iconst 0, 1) := by decide +kernel
theorem dX12_trust_248 : decode cX12_trust 248 = .ok (.iaload, 1) := by decide +kernel
theorem dX12_trust_249 : decode cX12_trust 249 = .ok (.iadd, 1) := by decide +kernel
theorem dX12_trust_250 : decode cX12_trust 250 = .ok (.imul, 1) := by decide +kernel
theorem dX12_trust_251 : decode cX12_trust 251 = .ok (.ireturn, 1) := by decide +kernel
theorem dX12_trust_252 : decode cX12_trust 252 = .ok (.aload_n 0, 1) := by decide +kernel
theorem dX12_trust_253 : decode cX12_trust 253 = .ok (.dup, 1) := by decide +kernel
theorem dX12_trust_254 : decode cX12_trust 254 = .ok (.getfield 175, 3) := by decide +kernel
theorem dX12_trust_257 : decode cX12_trust 257 = .ok (.ldc2_w 187, 3) := by decide +kernel
theorem dX12_trust_260 : decode cX12_trust 260 = .ok (.ladd, 1) := by decide +kernel
theorem dX12_trust_261 : decode cX12_trust 261 = .ok (.putfield 175, 3) := by decide +kernel
theorem dX12_trust_264 : decode cX12_trust 264 = .ok (.iload_n 3, 1) := by decide +kernel
theorem dX12_trust_265 : decode cX12_trust 265 = .ok (.aload_n 0, 1) := by decide +kernel
theorem dX12_trust_266 : decode cX12_trust 266 = .ok (.getfield 56, 3) := by decide +kernel
theorem dX12_trust_269 : decode cX12_trust 269 = .ok (.iload_n 2, 1) := by decide +kernel
theorem dX12_trust_270 : decode cX12_trust 270 = .ok (.iaload, 1) := by decide +kernel
theorem dX12_trust_271 : decode cX12_trust 271 = .ok (.aload_n 0, 1) := by decide +kernel
theorem dX12_trust_272 : decode cX12_trust 272 = .ok (.getfield 53, 3) := by decide +kernel
theorem dX12_trust_275 : decode cX12_trust 275 = .ok (.iload_n 2, 1) := by decide +kernel
theorem dX12_trust_276 : decode cX12_trust 276 = .ok (.iaload, 1) := by decide +kernel
theorem dX12_trust_277 : decode cX12_trust 277 = .ok (.isub, 1) := by decide +kernel
theorem dX12_trust_278 : decode cX12_trust 278 = .ok (.iconst 1, 1) := by decide +kernel
theorem dX12_trust_279 : decode cX12_trust 279 = .ok (.iadd, 1) := by decide +kernel
theorem dX12_trust_280 : decode cX12_trust 280 = .ok (.bipush 100, 2) := by decide +kernel
theorem dX12_trust_282 : decode cX12_trust 282 = .ok (.idiv, 1) := by decide +kernel
theorem dX12_trust_283 : decode cX12_trust 283 = .ok (.isub, 1) := by decide +kernel
theorem dX12_trust_284 : decode cX12_trust 284 = .ok (.ireturn, 1) := by decide +kernel
theorem dX12_copy_0 : decode cX12_copy 0 = .ok (.aload_n 0, 1) := by decide +kernel
theorem dX12_copy_1 : decode cX12_copy 1 = .ok (.getfield 23, 3) := by decide +kernel
theorem dX12_copy_4 : decode cX12_copy 4 = .ok (.iload_n 2, 1) := by decide +kernel
theorem dX12_copy_5 : decode cX12_copy 5 = .ok (.aload_n 0, 1) := by decide +kernel
theorem dX12_copy_6 : decode cX12_copy 6 = .ok (.getfield 23, 3) := by decide +kernel
theorem dX12_copy_9 : decode cX12_copy 9 = .ok (.iload_n 1, 1) := by decide +kernel
theorem dX12_copy_10 : decode cX12_copy 10 = .ok (.iaload, 1) := by decide +kernel
theorem dX12_copy_11 : decode cX12_copy 11 = .ok (.iastore, 1) := by decide +kernel
theorem dX12_copy_12 : decode cX12_copy 12 = .ok (.aload_n 0, 1) := by decide +kernel
theorem dX12_copy_13 : decode cX12_copy 13 = .ok (.getfield 47, 3) := by decide +kernel
theorem dX12_copy_16 : decode cX12_copy 16 = .ok (.iload_n 2, 1) := by decide +kernel
theorem dX12_copy_17 : decode cX12_copy 17 = .ok (.aload_n 0, 1) := by decide +kernel
theorem dX12_copy_18 : decode cX12_copy 18 = .ok (.getfield 47, 3) := by decide +kernel
theorem dX12_copy_21 : decode cX12_copy 21 = .ok (.iload_n 1, 1) := by decide +kernel
theorem dX12_copy_22 : decode cX12_copy 22 = .ok (.iaload, 1) := by decide +kernel
theorem dX12_copy_23 : decode cX12_copy 23 = .ok (.iastore, 1) := by decide +kernel
theorem dX12_copy_24 : decode cX12_copy 24 = .ok (.aload_n 0, 1) := by decide +kernel
theorem dX12_copy_25 : decode cX12_copy 25 = .ok (.getfield 59, 3) := by decide +kernel
theorem dX12_copy_28 : decode cX12_copy 28 = .ok (.iload_n 2, 1) := by decide +kernel
theorem dX12_copy_29 : decode cX12_copy 29 = .ok (.aload_n 0, 1) := by decide +kernel
theorem dX12_copy_30 : decode cX12_copy 30 = .ok (.getfield 59, 3) := by decide +kernel
theorem dX12_copy_33 : decode cX12_copy 33 = .ok (.iload_n 1, 1) := by decide +kernel
theorem dX12_copy_34 : decode cX12_copy 34 = .ok (.iaload, 1) := by decide +kernel
theorem dX12_copy_35 : decode cX12_copy 35 = .ok (.iastore, 1) := by decide +kernel
theorem dX12_copy_36 : decode cX12_copy 36 = .ok (.aload_n 0, 1) := by decide +kernel
theorem dX12_copy_37 : decode cX12_copy 37 = .ok (.getfield 72, 3) := by decide +kernel
theorem dX12_copy_40 : decode cX12_copy 40 = .ok (.iload_n 2, 1) := by decide +kernel
theorem dX12_copy_41 : decode cX12_copy 41 = .ok (.aload_n 0, 1) := by decide +kernel
theorem dX12_copy_42 : decode cX12_copy 42 = .ok (.getfield 72, 3) := by decide +kernel
theorem dX12_copy_45 : decode cX12_copy 45 = .ok (.iload_n 1, 1) := by decide +kernel
theorem dX12_copy_46 : decode cX12_copy 46 = .ok (.iaload, 1) := by decide +kernel
theorem dX12_copy_47 : decode cX12_copy 47 = .ok (.iastore, 1) := by decide +kernel
theorem dX12_copy_48 : decode cX12_copy 48 = .ok (.iconst 0, 1) := by decide +kernel
theorem dX12_copy_49 : decode cX12_copy 49 = .ok (.istore_n 3, 1) := by decide +kernel
theorem dX12_copy_50 : decode cX12_copy 50 = .ok (.iload_n 3, 1) := by decide +kernel
theorem dX12_copy_51 : decode cX12_copy 51 = .ok (.bipush 30, 2) := by decide +kernel
theorem dX12_copy_53 : decode cX12_copy 53 = .ok (.if_icmp .ge 31, 3) := by decide +kernel
theorem dX12_copy_56 : decode cX12_copy 56 = .ok (.aload_n 0, 1) := by decide +kernel
theorem dX12_copy_57 : decode cX12_copy 57 = .ok (.getfield 26, 3) := by decide +kernel
theorem dX12_copy_60 : decode cX12_copy 60 = .ok (.bipush 30, 2) := by decide +kernel
theorem dX12_copy_62 : decode cX12_copy 62 = .ok (.iload_n 2, 1) := by decide +kernel
theorem dX12_copy_63 : decode cX12_copy 63 = .ok (.imul, 1) := by decide +kernel
theorem dX12_copy_64 : decode cX12_copy 64 = .ok (.iload_n 3, 1) := by decide +kernel
theorem dX12_copy_65 : decode cX12_copy 65 = .ok (.iadd, 1) := by decide +kernel
theorem dX12_copy_66 : decode cX12_copy 66 = .ok (.aload_n 0, 1) := by decide +kernel
theorem dX12_copy_67 : decode cX12_copy 67 = .ok (.getfield 26, 3) := by decide +kernel
theorem dX12_copy_70 : decode cX12_copy 70 = .ok (.bipush 30, 2) := by decide +kernel
theorem dX12_copy_72 : decode cX12_copy 72 = .ok (.iload_n 1, 1) := by decide +kernel
theorem dX12_copy_73 : decode cX12_copy 73 = .ok (.imul, 1) := by decide +kernel
theorem dX12_copy_74 : decode cX12_copy 74 = .ok (.iload_n 3, 1) := by decide +kernel
theorem dX12_copy_75 : decode cX12_copy 75 = .ok (.iadd, 1) := by decide +kernel
theorem dX12_copy_76 : decode cX12_copy 76 = .ok (.iaload, 1) := by decide +kernel
theorem dX12_copy_77 : decode cX12_copy 77 = .ok (.iastore, 1) := by decide +kernel
theorem dX12_copy_78 : decode cX12_copy 78 = .ok (.iinc 3 1, 3) := by decide +kernel
theorem dX12_copy_81 : decode cX12_copy 81 = .ok (.goto (-31), 3) := by decide +kernel
theorem dX12_copy_84 : decode cX12_copy 84 = .ok (.iconst 0, 1) := by decide +kernel
theorem dX12_copy_85 : decode cX12_copy 85 = .ok (.istore_n 3, 1) := by decide +kernel
theorem dX12_copy_86 : decode cX12_copy 86 = .ok (.iload_n 3, 1) := by decide +kernel
theorem dX12_copy_87 : decode cX12_copy 87 = .ok (.bipush 12, 2) := by decide +kernel
theorem dX12_copy_89 : decode cX12_copy 89 = .ok (.if_icmp .ge 75, 3) := by decide +kernel
theorem dX12_copy_92 : decode cX12_copy 92 = .ok (.aload_n 0, 1) := by decide +kernel
theorem dX12_copy_93 : decode cX12_copy 93 = .ok (.getfield 50, 3) := by decide +kernel
theorem dX12_copy_96 : decode cX12_copy 96 = .ok (.bipush 12, 2) := by decide +kernel
theorem dX12_copy_98 : decode cX12_copy 98 = .ok (.iload_n 2, 1) := by decide +kernel
theorem dX12_copy_99 : decode cX12_copy 99 = .ok (.imul, 1) := by decide +kernel
theorem dX12_copy_100 : decode cX12_copy 100 = .ok (.iload_n 3, 1) := by decide +kernel
theorem dX12_copy_101 : decode cX12_copy 101 = .ok (.iadd, 1) := by decide +kernel
theorem dX12_copy_102 : decode cX12_copy 102 = .ok (.aload_n 0, 1) := by decide +kernel
theorem dX12_copy_103 : decode cX12_copy 103 = .ok (.getfield 50, 3) := by decide +kernel
theorem dX12_copy_106 : decode cX12_copy 106 = .ok (.bipush 12, 2) := by decide +kernel
theorem dX12_copy_108 : decode cX12_copy 108 = .ok (.iload_n 1, 1) := by decide +kernel
theorem dX12_copy_109 : decode cX12_copy 109 = .ok (.imul, 1) := by decide +kernel
theorem dX12_copy_110 : decode cX12_copy 110 = .ok (.iload_n 3, 1) := by decide +kernel
theorem dX12_copy_111 : decode cX12_copy 111 = .ok (.iadd, 1) := by decide +kernel
theorem dX12_copy_112 : decode cX12_copy 112 = .ok (.iaload, 1) := by decide +kernel
theorem dX12_copy_113 : decode cX12_copy 113 = .ok (.iastore, 1) := by decide +kernel
theorem dX12_copy_114 : decode cX12_copy 114 = .ok (.aload_n 0, 1) := by decide +kernel
theorem dX12_copy_115 : decode cX12_copy 115 = .ok (.getfield 53, 3) := by decide +kernel
theorem dX12_copy_118 : decode cX12_copy 118 = .ok (.bipush 12, 2) := by decide +kernel
theorem dX12_copy_120 : decode cX12_copy 120 = .ok (.iload_n 2, 1) := by decide +kernel
theorem dX12_copy_121 : decode cX12_copy 121 = .ok (.imul, 1) := by decide +kernel
theorem dX12_copy_122 : decode cX12_copy 122 = .ok (.iload_n 3, 1) := by decide +kernel
theorem dX12_copy_123 : decode cX12_copy 123 = .ok (.iadd, 1) := by decide +kernel
theorem dX12_copy_124 : decode cX12_copy 124 = .ok (.aload_n 0, 1) := by decide +kernel
theorem dX12_copy_125 : decode cX12_copy 125 = .ok (.getfield 53, 3) := by decide +kernel
theorem dX12_copy_128 : decode cX12_copy 128 = .ok (.bipush 12, 2) := by decide +kernel
theorem dX12_copy_130 : decode cX12_copy 130 = .ok (.iload_n 1, 1) := by decide +kernel
theorem dX12_copy_131 : decode cX12_copy 131 = .ok (.imul, 1) := by decide +kernel
theorem dX12_copy_132 : decode cX12_copy 132 = .ok (.iload_n 3, 1) := by decide +kernel
theorem dX12_copy_133 : decode cX12_copy 133 = .ok (.iadd, 1) := by decide +kernel
theorem dX12_copy_134 : decode cX12_copy 134 = .ok (.iaload, 1) := by decide +kernel
theorem dX12_copy_135 : decode cX12_copy 135 = .ok (.iastore, 1) := by decide +kernel
theorem dX12_copy_136 : decode cX12_copy 136 = .ok (.aload_n 0, 1) := by decide +kernel
theorem dX12_copy_137 : decode cX12_copy 137 = .ok (.getfield 56, 3) := by decide +kernel
theorem dX12_copy_140 : decode cX12_copy 140 = .ok (.bipush 12, 2) := by decide +kernel
theorem dX12_copy_142 : decode cX12_copy 142 = .ok (.iload_n 2, 1) := by decide +kernel
theorem dX12_copy_143 : decode cX12_copy 143 = .ok (.imul, 1) := by decide +kernel
theorem dX12_copy_144 : decode cX12_copy 144 = .ok (.iload_n 3, 1) := by decide +kernel
theorem dX12_copy_145 : decode cX12_copy 145 = .ok (.iadd, 1) := by decide +kernel
theorem dX12_copy_146 : decode cX12_copy 146 = .ok (.aload_n 0, 1) := by decide +kernel
theorem dX12_copy_147 : decode cX12_copy 147 = .ok (.getfield 56, 3) := by decide +kernel
theorem dX12_copy_150 : decode cX12_copy 150 = .ok (.bipush 12, 2) := by decide +kernel
theorem dX12_copy_152 : decode cX12_copy 152 = .ok (.iload_n 1, 1) := by decide +kernel
theorem dX12_copy_153 : decode cX12_copy 153 = .ok (.imul, 1) := by decide +kernel
theorem dX12_copy_154 : decode cX12_copy 154 = .ok (.iload_n 3, 1) := by decide +kernel
theorem dX12_copy_155 : decode cX12_copy 155 = .ok (.iadd, 1) := by decide +kernel
theorem dX12_copy_156 : decode cX12_copy 156 = .ok (.iaload, 1) := by decide +kernel
theorem dX12_copy_157 : decode cX12_copy 157 = .ok (.iastore, 1) := by decide +kernel
theorem dX12_copy_158 : decode cX12_copy 158 = .ok (.iinc 3 1, 3) := by decide +kernel
theorem dX12_copy_161 : decode cX12_copy 161 = .ok (.goto (-75), 3) := by decide +kernel
theorem dX12_copy_164 : decode cX12_copy 164 = .ok (.iconst 0, 1) := by decide +kernel
theorem dX12_copy_165 : decode cX12_copy 165 = .ok (.istore_n 3, 1) := by decide +kernel
theorem dX12_copy_166 : decode cX12_copy 166 = .ok (.iload_n 3, 1) := by decide +kernel
theorem dX12_copy_167 : decode cX12_copy 167 = .ok (.bipush 16, 2) := by decide +kernel
theorem dX12_copy_169 : decode cX12_copy 169 = .ok (.if_icmp .ge 31, 3) := by decide +kernel
theorem dX12_copy_172 : decode cX12_copy 172 = .ok (.aload_n 0, 1) := by decide +kernel
theorem dX12_copy_173 : decode cX12_copy 173 = .ok (.getfield 62, 3) := by decide +kernel
theorem dX12_copy_176 : decode cX12_copy 176 = .ok (.bipush 16, 2) := by decide +kernel
theorem dX12_copy_178 : decode cX12_copy 178 = .ok (.iload_n 2, 1) := by decide +kernel
theorem dX12_copy_179 : decode cX12_copy 179 = .ok (.imul, 1) := by decide +kernel
theorem dX12_copy_180 : decode cX12_copy 180 = .ok (.iload_n 3, 1) := by decide +kernel
theorem dX12_copy_181 : decode cX12_copy 181 = .ok (.iadd, 1) := by decide +kernel
theorem dX12_copy_182 : decode cX12_copy 182 = .ok (.aload_n 0, 1) := by decide +kernel
theorem dX12_copy_183 : decode cX12_copy 183 = .ok (.getfield 62, 3) := by decide +kernel
theorem dX12_copy_186 : decode cX12_copy 186 = .ok (.bipush 16, 2) := by decide +kernel
theorem dX12_copy_188 : decode cX12_copy 188 = .ok (.iload_n 1, 1) := by decide +kernel
theorem dX12_copy_189 : decode cX12_copy 189 = .ok (.imul, 1) := by decide +kernel
theorem dX12_copy_190 : decode cX12_copy 190 = .ok (.iload_n 3, 1) := by decide +kernel
theorem dX12_copy_191 : decode cX12_copy 191 = .ok (.iadd, 1) := by decide +kernel
theorem dX12_copy_192 : decode cX12_copy 192 = .ok (.iaload, 1) := by decide +kernel
theorem dX12_copy_193 : decode cX12_copy 193 = .ok (.iastore, 1) := by decide +kernel
theorem dX12_copy_194 : decode cX12_copy 194 = .ok (.iinc 3 1, 3) := by decide +kernel
theorem dX12_copy_197 : decode cX12_copy 197 = .ok (.goto (-31), 3) := by decide +kernel
theorem dX12_copy_200 : decode cX12_copy 200 = .ok (.iconst 0, 1) := by decide +kernel
theorem dX12_copy_201 : decode cX12_copy 201 = .ok (.istore_n 3, 1) := by decide +kernel
theorem dX12_copy_202 : decode cX12_copy 202 = .ok (.iload_n 3, 1) := by decide +kernel
theorem dX12_copy_203 : decode cX12_copy 203 = .ok (.iconst 5, 1) := by decide +kernel
theorem dX12_copy_204 : decode cX12_copy 204 = .ok (.if_icmp .ge 29, 3) := by decide +kernel
theorem dX12_copy_207 : decode cX12_copy 207 = .ok (.aload_n 0, 1) := by decide +kernel
theorem dX12_copy_208 : decode cX12_copy 208 = .ok (.getfield 65, 3) := by decide +kernel
theorem dX12_copy_211 : decode cX12_copy 211 = .ok (.iconst 5, 1) := by decide +kernel
theorem dX12_copy_212 : decode cX12_copy 212 = .ok (.iload_n 2, 1) := by decide +kernel
theorem dX12_copy_213 : decode cX12_copy 213 = .ok (.imul, 1) := by decide +kernel
theorem dX12_copy_214 : decode cX12_copy 214 = .ok (.iload_n 3, 1) := by decide +kernel
theorem dX12_copy_215 : decode cX12_copy 215 = .ok (.iadd, 1) := by decide +kernel
theorem dX12_copy_216 : decode cX12_copy 216 = .ok (.aload_n 0, 1) := by decide +kernel
theorem dX12_copy_217 : decode cX12_copy 217 = .ok (.getfield 65, 3) := by decide +kernel
theorem dX12_copy_220 : decode cX12_copy 220 = .ok (.iconst 5, 1) := by decide +kernel
theorem dX12_copy_221 : decode cX12_copy 221 = .ok (.iload_n 1, 1) := by decide +kernel
theorem dX12_copy_222 : decode cX12_copy 222 = .ok (.imul, 1) := by decide +kernel
theorem dX12_copy_223 : decode cX12_copy 223 = .ok (.iload_n 3, 1) := by decide +kernel
theorem dX12_copy_224 : decode cX12_copy 224 = .ok (.iadd, 1) := by decide +kernel
theorem dX12_copy_225 : decode cX12_copy 225 = .ok (.laload, 1) := by decide +kernel
theorem dX12_copy_226 : decode cX12_copy 226 = .ok (.lastore, 1) := by decide +kernel
theorem dX12_copy_227 : decode cX12_copy 227 = .ok (.iinc 3 1, 3) := by decide +kernel
theorem dX12_copy_230 : decode cX12_copy 230 = .ok (.goto (-28), 3) := by decide +kernel
theorem dX12_copy_233 : decode cX12_copy 233 = .ok (.return_, 1) := by decide +kernel
set_option maxRecDepth 20000 in
theorem ggX12_keep_X12_in : GoodIn wsX12_keep wsX12_in := goodIn_r _ [6] (by decide +kernel) (by decide +kernel)
set_option maxRecDepth 20000 in
theorem gX12_keep_X12_in : GoodIn wsX12_keep (va_wsS RX12 86 yX12_in wsX12_in) := goodIn_app (goodIn_of _ (by decide +kernel)) ggX12_keep_X12_in
set_option maxRecDepth 20000 in
theorem ggX12_keep_X12_copy : GoodIn wsX12_keep wsX12_copy := goodIn_r _ [10, 11, 2, 12, 13, 14, 15, 16, 17, 18, 19, 20, 21, 22, 23, 24, 25, 26, 27, 28, 29, 30, 31, 32, 33, 34, 35, 36, 37, 38, 39, 40, 41, 42, 43, 44, 45, 46, 47, 48] (by decide +kernel) (by decide +kernel)
set_option maxRecDepth 20000 in
theorem gX12_keep_X12_copy : GoodIn wsX12_keep (wsV RX12 189 RX12 yX12_copy wsX12_copy) := goodIn_app (goodIn_of _ (by decide +kernel)) ggX12_keep_X12_copy
theorem dX12_keep_0 : decode cX12_keep 0 = .ok (.iload_n 1, 1) := by decide +kernel
theorem dX12_keep_1 : decode cX12_keep 1 = .ok (.iconst 0, 1) := by decide +kernel
theorem dX12_keep_2 : decode cX12_keep 2 = .ok (.iconst 1, 1) := by decide +kernel
theorem dX12_keep_3 : decode cX12_keep 3 = .ok (.invokestatic 86, 3) := by decide +kernel
theorem dX12_keep_6 : decode cX12_keep 6 = .ok (.ifCond .ne 5, 3) := by decide +kernel
theorem dX12_keep_9 : decode cX12_keep 9 = .ok (.iconst (-1), 1) := by decide +kernel
theorem dX12_keep_10 : decode cX12_keep 10 = .ok (.ireturn, 1) := by decide +kernel
theorem dX12_keep_11 : decode cX12_keep 11 = .ok (.aload_n 0, 1) := by decide +kernel
theorem dX12_keep_12 : decode cX12_keep 12 = .ok (.iconst 0, 1) := by decide +kernel
theorem dX12_keep_13 : decode cX12_keep 13 = .ok (.iconst 1, 1) := by decide +kernel
theorem dX12_keep_14 : decode cX12_keep 14 = .ok (.iload_n 1, 1) := by decide +kernel
theorem dX12_keep_15 : decode cX12_keep 15 = .ok (.iadd, 1) := by decide +kernel
theorem dX12_keep_16 : decode cX12_keep 16 = .ok (.invokevirtual 189, 3) := by decide +kernel
theorem dX12_keep_19 : decode cX12_keep 19 = .ok (.aload_n 0, 1) := by decide +kernel
theorem dX12_keep_20 : decode cX12_keep 20 = .ok (.getfield 78, 3) := by decide +kernel
theorem dX12_keep_23 : decode cX12_keep 23 = .ok (.iload_n 1, 1) := by decide +kernel
theorem dX12_keep_24 : decode cX12_keep 24 = .ok (.iconst 1, 1) := by decide +kernel
theorem dX12_keep_25 : decode cX12_keep 25 = .ok (.bastore, 1) := by decide +kernel
theorem dX12_keep_26 : decode cX12_keep 26 = .ok (.aload_n 0, 1) := by decide +kernel
theorem dX12_keep_27 : decode cX12_keep 27 = .ok (.getfield 47, 3) := by decide +kernel
theorem dX12_keep_30 : decode cX12_keep 30 = .ok (.iconst 0, 1) := by decide +kernel
theorem dX12_keep_31 : decode cX12_keep 31 = .ok (.iaload, 1) := by decide +kernel
theorem dX12_keep_32 : decode cX12_keep 32 = .ok (.ireturn, 1) := by decide +kernel
set_option maxRecDepth 20000 in
theorem ggX12_back_X12_in : GoodIn wsX12_back wsX12_in := goodIn_r _ [6] (by decide +kernel) (by decide +kernel)
set_option maxRecDepth 20000 in
theorem gX12_back_X12_in : GoodIn wsX12_back (va_wsS RX12 86 yX12_in wsX12_in) := goodIn_app (goodIn_of _ (by decide +kernel)) ggX12_back_X12_in
set_option maxRecDepth 20000 in
theorem ggX12_back_X12_copy : GoodIn wsX12_back wsX12_copy := goodIn_r _ [10, 11, 2, 12, 13, 14, 15, 16, 17, 18, 19, 20, 21, 22, 23, 24, 25, 26, 27, 28, 29, 30, 31, 32, 33, 34, 35, 36, 37, 38, 39, 40, 41, 42, 43, 44, 45, 46, 47, 48] (by decide +kernel) (by decide +kernel)
set_option maxRecDepth 20000 in
theorem gX12_back_X12_copy : GoodIn wsX12_back (wsV RX12 189 RX12 yX12_copy wsX12_copy) := goodIn_app (goodIn_of _ (by decide +kernel)) ggX12_back_X12_copy
theorem dX12_back_0 : decode cX12_back 0 = .ok (.iload_n 1, 1) := by decide +kernel
theorem dX12_back_1 : decode cX12_back 1 = .ok (.iconst 0, 1) := by decide +kernel
theorem dX12_back_2 : decode cX12_back 2 = .ok (.iconst 1, 1) := by decide +kernel
theorem dX12_back_3 : decode cX12_back 3 = .ok (.invokestatic 86, 3) := by decide +kernel
theorem dX12_back_6 : decode cX12_back 6 = .ok (.ifCond .ne 5, 3) := by decide +kernel
theorem dX12_back_9 : decode cX12_back 9 = .ok (.iconst (-1), 1) := by decide +kernel
theorem dX12_back_10 : decode cX12_back 10 = .ok (.ireturn, 1) := by decide +kernel
theorem dX12_back_11 : decode cX12_back 11 = .ok (.aload_n 0, 1) := by decide +kernel
theorem dX12_back_12 : decode cX12_back 12 = .ok (.getfield 78, 3) := by decide +kernel
theorem dX12_back_15 : decode cX12_back 15 = .ok (.iload_n 1, 1) := by decide +kernel
theorem dX12_back_16 : decode cX12_back 16 = .ok (.baload, 1) := by decide +kernel
theorem dX12_back_17 : decode cX12_back 17 = .ok (.ifCond .ne 6, 3) := by decide +kernel
theorem dX12_back_20 : decode cX12_back 20 = .ok (.bipush (-2), 2) := by decide +kernel
theorem dX12_back_22 : decode cX12_back 22 = .ok (.ireturn, 1) := by decide +kernel
theorem dX12_back_23 : decode cX12_back 23 = .ok (.aload_n 0, 1) := by decide +kernel
theorem dX12_back_24 : decode cX12_back 24 = .ok (.iconst 1, 1) := by decide +kernel
theorem dX12_back_25 : decode cX12_back 25 = .ok (.iload_n 1, 1) := by decide +kernel
theorem dX12_back_26 : decode cX12_back 26 = .ok (.iadd, 1) := by decide +kernel
theorem dX12_back_27 : decode cX12_back 27 = .ok (.iconst 0, 1) := by decide +kernel
theorem dX12_back_28 : decode cX12_back 28 = .ok (.invokevirtual 189, 3) := by decide +kernel
theorem dX12_back_31 : decode cX12_back 31 = .ok (.aload_n 0, 1) := by decide +kernel
theorem dX12_back_32 : decode cX12_back 32 = .ok (.getfield 47, 3) := by decide +kernel
theorem dX12_back_35 : decode cX12_back 35 = .ok (.iconst 0, 1) := by decide +kernel
theorem dX12_back_36 : decode cX12_back 36 = .ok (.iaload, 1) := by decide +kernel
theorem dX12_back_37 : decode cX12_back 37 = .ok (.ireturn, 1) := by decide +kernel
set_option maxRecDepth 20000 in
theorem ggX12_count_X12_sea : GoodIn wsX12_count wsX12_sea := goodIn_r _ [12, 13, 17, 18, 19, 20, 21, 22, 23, 24, 25, 26, 27, 28, 29, 30, 31, 32, 33, 34, 35, 36, 37, 38, 39, 40, 41, 42, 43, 44, 45] (by decide +kernel) (by decide +kernel)
set_option maxRecDepth 20000 in
theorem gX12_count_X12_sea : GoodIn wsX12_count (wsV RX12 95 RX12 yX12_sea wsX12_sea) := goodIn_app (goodIn_of _ (by decide +kernel)) ggX12_count_X12_sea
set_option maxRecDepth 20000 in
theorem ggX12_count_X12_bitsIn : GoodIn wsX12_count wsX12_bitsIn := goodIn_r _ [16] (by decide +kernel) (by decide +kernel)
set_option maxRecDepth 20000 in
theorem gX12_count_X12_bitsIn : GoodIn wsX12_count (va_wsS RX12 156 yX12_bitsIn wsX12_bitsIn) := goodIn_app (goodIn_of _ (by decide +kernel)) ggX12_count_X12_bitsIn
theorem dX12_count_0 : decode cX12_count 0 = .ok (.iload_n 1, 1) := by decide +kernel
theorem dX12_count_1 : decode cX12_count 1 = .ok (.tableswitch 100 0 7 #[47, 52, 59, 66, 71, 78, 85, 95], 47) := by decide +kernel
theorem dX12_count_48 : decode cX12_count 48 = .ok (.aload_n 0, 1) := by decide +kernel
theorem dX12_count_49 : decode cX12_count 49 = .ok (.invokevirtual 95, 3) := by decide +kernel
theorem dX12_count_52 : decode cX12_count 52 = .ok (.ireturn, 1) := by decide +kernel
theorem dX12_count_53 : decode cX12_count 53 = .ok (.aload_n 0, 1) := by decide +kernel
theorem dX12_count_54 : decode cX12_count 54 = .ok (.getfield 23, 3) := by decide +kernel
theorem dX12_count_57 : decode cX12_count 57 = .ok (.iconst 0, 1) := by decide +kernel
theorem dX12_count_58 : decode cX12_count 58 = .ok (.iaload, 1) := by decide +kernel
theorem dX12_count_59 : decode cX12_count 59 = .ok (.ireturn, 1) := by decide +kernel
theorem dX12_count_60 : decode cX12_count 60 = .ok (.aload_n 0, 1) := by decide +kernel
theorem dX12_count_61 : decode cX12_count 61 = .ok (.getfield 29, 3) := by decide +kernel
theorem dX12_count_64 : decode cX12_count 64 = .ok (.iconst 0, 1) := by decide +kernel
theorem dX12_count_65 : decode cX12_count 65 = .ok (.iaload, 1) := by decide +kernel
theorem dX12_count_66 : decode cX12_count 66 = .ok (.ireturn, 1) := by decide +kernel
theorem dX12_count_67 : decode cX12_count 67 = .ok (.aload_n 0, 1) := by decide +kernel
theorem dX12_count_68 : decode cX12_count 68 = .ok (.getfield 141, 3) := by decide +kernel
theorem dX12_count_71 : decode cX12_count 71 = .ok (.ireturn, 1) := by decide +kernel
theorem dX12_count_72 : decode cX12_count 72 = .ok (.aload_n 0, 1) := by decide +kernel
theorem dX12_count_73 : decode cX12_count 73 = .ok (.getfield 47, 3) := by decide +kernel
theorem dX12_count_76 : decode cX12_count 76 = .ok (.iconst 0, 1) := by decide +kernel
theorem dX12_count_77 : decode cX12_count 77 = .ok (.iaload, 1) := by decide +kernel
theorem dX12_count_78 : decode cX12_count 78 = .ok (.ireturn, 1) := by decide +kernel
theorem dX12_count_79 : decode cX12_count 79 = .ok (.aload_n 0, 1) := by decide +kernel
theorem dX12_count_80 : decode cX12_count 80 = .ok (.getfield 59, 3) := by decide +kernel
theorem dX12_count_83 : decode cX12_count 83 = .ok (.iconst 0, 1) := by decide +kernel
theorem dX12_count_84 : decode cX12_count 84 = .ok (.iaload, 1) := by decide +kernel
theorem dX12_count_85 : decode cX12_count 85 = .ok (.ireturn, 1) := by decide +kernel
theorem dX12_count_86 : decode cX12_count 86 = .ok (.aload_n 0, 1) := by decide +kernel
theorem dX12_count_87 : decode cX12_count 87 = .ok (.getfield 72, 3) := by decide +kernel
theorem dX12_count_90 : decode cX12_count 90 = .ok (.iconst 0, 1) := by decide +kernel
theorem dX12_count_91 : decode cX12_count 91 = .ok (.iaload, 1) := by decide +kernel
theorem dX12_count_92 : decode cX12_count 92 = .ok (.invokestatic 156, 3) := by decide +kernel
theorem dX12_count_95 : decode cX12_count 95 = .ok (.ireturn, 1) := by decide +kernel
theorem dX12_count_96 : decode cX12_count 96 = .ok (.aload_n 0, 1) := by decide +kernel
theorem dX12_count_97 : decode cX12_count 97 = .ok (.getfield 90, 3) := by decide +kernel
theorem dX12_count_100 : decode cX12_count 100 = .ok (.ireturn, 1) := by decide +kernel
theorem dX12_count_101 : decode cX12_count 101 = .ok (.iconst (-1), 1) := by decide +kernel
theorem dX12_count_102 : decode cX12_count 102 = .ok (.ireturn, 1) := by decide +kernel
theorem dX12_trace_0 : decode cX12_trace 0 = .ok (.aload_n 0, 1) := by decide +kernel
theorem dX12_trace_1 : decode cX12_trace 1 = .ok (.getfield 175, 3) := by decide +kernel
theorem dX12_trace_4 : decode cX12_trace 4 = .ok (.lreturn, 1) := by decide +kernel
theorem dJ6_compare_7cf53_0 : decode cJ6_compare_7cf53 0 = .ok (.iload_n 0, 1) := by decide +kernel
theorem dJ6_compare_7cf53_1 : decode cJ6_compare_7cf53 1 = .ok (.iload_n 1, 1) := by decide +kernel
theorem dJ6_compare_7cf53_2 : decode cJ6_compare_7cf53 2 = .ok (.if_icmp .ge 7, 3) := by decide +kernel
theorem dJ6_compare_7cf53_5 : decode cJ6_compare_7cf53 5 = .ok (.iconst (-1), 1) := by decide +kernel
theorem dJ6_compare_7cf53_6 : decode cJ6_compare_7cf53 6 = .ok (.goto 13, 3) := by decide +kernel
theorem dJ6_compare_7cf53_9 : decode cJ6_compare_7cf53 9 = .ok (.iload_n 0, 1) := by decide +kernel
theorem dJ6_compare_7cf53_10 : decode cJ6_compare_7cf53 10 = .ok (.iload_n 1, 1) := by decide +kernel
theorem dJ6_compare_7cf53_11 : decode cJ6_compare_7cf53 11 = .ok (.if_icmp .ne 7, 3) := by decide +kernel
theorem dJ6_compare_7cf53_14 : decode cJ6_compare_7cf53 14 = .ok (.iconst 0, 1) := by decide +kernel
theorem dJ6_compare_7cf53_15 : decode cJ6_compare_7cf53 15 = .ok (.goto 4, 3) := by decide +kernel
theorem dJ6_compare_7cf53_18 : decode cJ6_compare_7cf53 18 = .ok (.iconst 1, 1) := by decide +kernel
theorem dJ6_compare_7cf53_19 : decode cJ6_compare_7cf53 19 = .ok (.ireturn, 1) := by decide +kernel
theorem dJ6_bitCount_0f7a4_0 : decode cJ6_bitCount_0f7a4 0 = .ok (.iload_n 0, 1) := by decide +kernel
theorem dJ6_bitCount_0f7a4_1 : decode cJ6_bitCount_0f7a4 1 = .ok (.iload_n 0, 1) := by decide +kernel
theorem dJ6_bitCount_0f7a4_2 : decode cJ6_bitCount_0f7a4 2 = .ok (.iconst 1, 1) := by decide +kernel
theorem dJ6_bitCount_0f7a4_3 : decode cJ6_bitCount_0f7a4 3 = .ok (.iushr, 1) := by decide +kernel
theorem dJ6_bitCount_0f7a4_4 : decode cJ6_bitCount_0f7a4 4 = .ok (.ldc_w 265, 3) := by decide +kernel
theorem dJ6_bitCount_0f7a4_7 : decode cJ6_bitCount_0f7a4 7 = .ok (.iand, 1) := by decide +kernel
theorem dJ6_bitCount_0f7a4_8 : decode cJ6_bitCount_0f7a4 8 = .ok (.isub, 1) := by decide +kernel
theorem dJ6_bitCount_0f7a4_9 : decode cJ6_bitCount_0f7a4 9 = .ok (.istore_n 0, 1) := by decide +kernel
theorem dJ6_bitCount_0f7a4_10 : decode cJ6_bitCount_0f7a4 10 = .ok (.iload_n 0, 1) := by decide +kernel
theorem dJ6_bitCount_0f7a4_11 : decode cJ6_bitCount_0f7a4 11 = .ok (.ldc_w 266, 3) := by decide +kernel
theorem dJ6_bitCount_0f7a4_14 : decode cJ6_bitCount_0f7a4 14 = .ok (.iand, 1) := by decide +kernel
theorem dJ6_bitCount_0f7a4_15 : decode cJ6_bitCount_0f7a4 15 = .ok (.iload_n 0, 1) := by decide +kernel
theorem dJ6_bitCount_0f7a4_16 : decode cJ6_bitCount_0f7a4 16 = .ok (.iconst 2, 1) := by decide +kernel
theorem dJ6_bitCount_0f7a4_17 : decode cJ6_bitCount_0f7a4 17 = .ok (.iushr, 1) := by decide +kernel
theorem dJ6_bitCount_0f7a4_18 : decode cJ6_bitCount_0f7a4 18 = .ok (.ldc_w 266, 3) := by decide +kernel
theorem dJ6_bitCount_0f7a4_21 : decode cJ6_bitCount_0f7a4 21 = .ok (.iand, 1) := by decide +kernel
theorem dJ6_bitCount_0f7a4_22 : decode cJ6_bitCount_0f7a4 22 = .ok (.iadd, 1) := by decide +kernel
theorem dJ6_bitCount_0f7a4_23 : decode cJ6_bitCount_0f7a4 23 = .ok (.istore_n 0, 1) := by decide +kernel
theorem dJ6_bitCount_0f7a4_24 : decode cJ6_bitCount_0f7a4 24 = .ok (.iload_n 0, 1) := by decide +kernel
theorem dJ6_bitCount_0f7a4_25 : decode cJ6_bitCount_0f7a4 25 = .ok (.iload_n 0, 1) := by decide +kernel
theorem dJ6_bitCount_0f7a4_26 : decode cJ6_bitCount_0f7a4 26 = .ok (.iconst 4, 1) := by decide +kernel
theorem dJ6_bitCount_0f7a4_27 : decode cJ6_bitCount_0f7a4 27 = .ok (.iushr, 1) := by decide +kernel
theorem dJ6_bitCount_0f7a4_28 : decode cJ6_bitCount_0f7a4 28 = .ok (.iadd, 1) := by decide +kernel
theorem dJ6_bitCount_0f7a4_29 : decode cJ6_bitCount_0f7a4 29 = .ok (.ldc_w 267, 3) := by decide +kernel
theorem dJ6_bitCount_0f7a4_32 : decode cJ6_bitCount_0f7a4 32 = .ok (.iand, 1) := by decide +kernel
theorem dJ6_bitCount_0f7a4_33 : decode cJ6_bitCount_0f7a4 33 = .ok (.istore_n 0, 1) := by decide +kernel
theorem dJ6_bitCount_0f7a4_34 : decode cJ6_bitCount_0f7a4 34 = .ok (.iload_n 0, 1) := by decide +kernel
theorem dJ6_bitCount_0f7a4_35 : decode cJ6_bitCount_0f7a4 35 = .ok (.iload_n 0, 1) := by decide +kernel
theorem dJ6_bitCount_0f7a4_36 : decode cJ6_bitCount_0f7a4 36 = .ok (.bipush 8, 2) := by decide +kernel
theorem dJ6_bitCount_0f7a4_38 : decode cJ6_bitCount_0f7a4 38 = .ok (.iushr, 1) := by decide +kernel
theorem dJ6_bitCount_0f7a4_39 : decode cJ6_bitCount_0f7a4 39 = .ok (.iadd, 1) := by decide +kernel
theorem dJ6_bitCount_0f7a4_40 : decode cJ6_bitCount_0f7a4 40 = .ok (.istore_n 0, 1) := by decide +kernel
theorem dJ6_bitCount_0f7a4_41 : decode cJ6_bitCount_0f7a4 41 = .ok (.iload_n 0, 1) := by decide +kernel
theorem dJ6_bitCount_0f7a4_42 : decode cJ6_bitCount_0f7a4 42 = .ok (.iload_n 0, 1) := by decide +kernel
theorem dJ6_bitCount_0f7a4_43 : decode cJ6_bitCount_0f7a4 43 = .ok (.bipush 16, 2) := by decide +kernel
theorem dJ6_bitCount_0f7a4_45 : decode cJ6_bitCount_0f7a4 45 = .ok (.iushr, 1) := by decide +kernel
theorem dJ6_bitCount_0f7a4_46 : decode cJ6_bitCount_0f7a4 46 = .ok (.iadd, 1) := by decide +kernel
theorem dJ6_bitCount_0f7a4_47 : decode cJ6_bitCount_0f7a4 47 = .ok (.istore_n 0, 1) := by decide +kernel
theorem dJ6_bitCount_0f7a4_48 : decode cJ6_bitCount_0f7a4 48 = .ok (.iload_n 0, 1) := by decide +kernel
theorem dJ6_bitCount_0f7a4_49 : decode cJ6_bitCount_0f7a4 49 = .ok (.bipush 63, 2) := by decide +kernel
theorem dJ6_bitCount_0f7a4_51 : decode cJ6_bitCount_0f7a4 51 = .ok (.iand, 1) := by decide +kernel
theorem dJ6_bitCount_0f7a4_52 : decode cJ6_bitCount_0f7a4 52 = .ok (.ireturn, 1) := by decide +kernel
theorem dJ9_max_7cf53_0 : decode cJ9_max_7cf53 0 = .ok (.iload_n 0, 1) := by decide +kernel
theorem dJ9_max_7cf53_1 : decode cJ9_max_7cf53 1 = .ok (.iload_n 1, 1) := by decide +kernel
theorem dJ9_max_7cf53_2 : decode cJ9_max_7cf53 2 = .ok (.if_icmp .lt 7, 3) := by decide +kernel
theorem dJ9_max_7cf53_5 : decode cJ9_max_7cf53 5 = .ok (.iload_n 0, 1) := by decide +kernel
theorem dJ9_max_7cf53_6 : decode cJ9_max_7cf53 6 = .ok (.goto 4, 3) := by decide +kernel
theorem dJ9_max_7cf53_9 : decode cJ9_max_7cf53 9 = .ok (.iload_n 1, 1) := by decide +kernel
theorem dJ9_max_7cf53_10 : decode cJ9_max_7cf53 10 = .ok (.ireturn, 1) := by decide +kernel
theorem dJ9_max_f86c9_0 : decode cJ9_max_f86c9 0 = .ok (.lload_n 0, 1) := by decide +kernel
theorem dJ9_max_f86c9_1 : decode cJ9_max_f86c9 1 = .ok (.lload_n 2, 1) := by decide +kernel
theorem dJ9_max_f86c9_2 : decode cJ9_max_f86c9 2 = .ok (.lcmp, 1) := by decide +kernel
theorem dJ9_max_f86c9_3 : decode cJ9_max_f86c9 3 = .ok (.ifCond .lt 7, 3) := by decide +kernel
theorem dJ9_max_f86c9_6 : decode cJ9_max_f86c9 6 = .ok (.lload_n 0, 1) := by decide +kernel
theorem dJ9_max_f86c9_7 : decode cJ9_max_f86c9 7 = .ok (.goto 4, 3) := by decide +kernel
theorem dJ9_max_f86c9_10 : decode cJ9_max_f86c9 10 = .ok (.lload_n 2, 1) := by decide +kernel
theorem dJ9_max_f86c9_11 : decode cJ9_max_f86c9 11 = .ok (.lreturn, 1) := by decide +kernel
theorem dJ9_min_7cf53_0 : decode cJ9_min_7cf53 0 = .ok (.iload_n 0, 1) := by decide +kernel
theorem dJ9_min_7cf53_1 : decode cJ9_min_7cf53 1 = .ok (.iload_n 1, 1) := by decide +kernel
theorem dJ9_min_7cf53_2 : decode cJ9_min_7cf53 2 = .ok (.if_icmp .gt 7, 3) := by decide +kernel
theorem dJ9_min_7cf53_5 : decode cJ9_min_7cf53 5 = .ok (.iload_n 0, 1) := by decide +kernel
theorem dJ9_min_7cf53_6 : decode cJ9_min_7cf53 6 = .ok (.goto 4, 3) := by decide +kernel
theorem dJ9_min_7cf53_9 : decode cJ9_min_7cf53 9 = .ok (.iload_n 1, 1) := by decide +kernel
theorem dJ9_min_7cf53_10 : decode cJ9_min_7cf53 10 = .ok (.ireturn, 1) := by decide +kernel
