set_option maxRecDepth 20000 in
theorem gk_X11_even : GoodIn lw_tbl wsX11_even := goodIn_r _ [762, 298, 763, 764, 765, 33, 766, 192, 191, 767, 468, 40, 469, 768, 475, 476, 306, 308, 310, 312, 314, 316, 318, 320, 322, 324, 326, 213, 215, 217, 219, 221, 223, 194, 196] (by decide +kernel) (by decide +kernel)
set_option maxRecDepth 20000 in
theorem gl_X11_even : GoodIn lw_tbl (wsV RL 138 RX11 yX11_even wsX11_even) := goodIn_app (goodIn_r _ [759, 760, 761, 26] (by decide +kernel) (by decide +kernel)) gk_X11_even
set_option maxRecDepth 20000 in
theorem gk_X12_even : GoodIn lw_tbl wsX12_even := goodIn_r _ [1211, 1059, 953, 954, 960, 962, 964, 966, 968, 970, 972, 974, 976, 978, 980, 982, 984, 986, 988, 990, 992, 994, 996, 998, 1000, 1002, 1004, 1006, 1008, 1010, 1012, 1014, 1016] (by decide +kernel) (by decide +kernel)
set_option maxRecDepth 20000 in
theorem gl_X12_even : GoodIn lw_tbl (wsV RL 141 RX12 yX12_even wsX12_even) := goodIn_app (goodIn_r _ [1208, 1209, 1210, 38] (by decide +kernel) (by decide +kernel)) gk_X12_even
set_option maxRecDepth 20000 in
theorem gk_X11_story : GoodIn lw_tbl wsX11_story := goodIn_r _ [772, 776, 298, 773, 774, 26, 775, 333, 334, 335, 306, 308, 310, 312, 314, 316, 318, 320, 322, 324, 326, 213, 215, 217, 219, 221, 223] (by decide +kernel) (by decide +kernel)
set_option maxRecDepth 20000 in
theorem gl_X11_story : GoodIn lw_tbl (wsV RL 142 RX11 yX11_story wsX11_story) := goodIn_app (goodIn_r _ [769, 770, 771, 26] (by decide +kernel) (by decide +kernel)) gk_X11_story
set_option maxRecDepth 20000 in
theorem gk_X12_story : GoodIn lw_tbl wsX12_story := goodIn_r _ [1215, 1219, 955, 1216, 1217, 38, 1218, 1024, 1025, 1026, 960, 962, 964, 966, 968, 970, 972, 974, 976, 978, 980, 982, 984, 986, 988, 990, 992, 994, 996, 998, 1000, 1002, 1004, 1006, 1008, 1010, 1012, 1014, 1016] (by decide +kernel) (by decide +kernel)
set_option maxRecDepth 20000 in
theorem gl_X12_story : GoodIn lw_tbl (wsV RL 146 RX12 yX12_story wsX12_story) := goodIn_app (goodIn_r _ [1212, 1213, 1214, 38] (by decide +kernel) (by decide +kernel)) gk_X12_story
set_option maxRecDepth 20000 in
theorem gk_X11_chance : GoodIn lw_tbl wsX11_chance := goodIn_r _ [780, 301, 773, 774, 26, 775, 333, 334, 335, 654, 655, 656, 306, 308, 310, 312, 314, 316, 318, 320, 322, 324, 326, 256, 258, 260] (by decide +kernel) (by decide +kernel)
set_option maxRecDepth 20000 in
theorem gl_X11_chance : GoodIn lw_tbl (wsV RL 147 RX11 yX11_chance wsX11_chance) := goodIn_app (goodIn_r _ [777, 778, 779, 26] (by decide +kernel) (by decide +kernel)) gk_X11_chance
set_option maxRecDepth 20000 in
theorem gk_X12_chance : GoodIn lw_tbl wsX12_chance := goodIn_r _ [1223, 956, 1216, 1217, 38, 1218, 1024, 1025, 1026, 960, 962, 964, 966, 968, 970, 972, 974, 976, 978, 980, 982, 984, 986, 988, 990, 992, 994, 996, 998, 1000, 1002, 1004, 1006, 1008, 1010, 1012, 1014, 1016] (by decide +kernel) (by decide +kernel)
set_option maxRecDepth 20000 in
theorem gl_X12_chance : GoodIn lw_tbl (wsV RL 150 RX12 yX12_chance wsX12_chance) := goodIn_app (goodIn_r _ [1220, 1221, 1222, 38] (by decide +kernel) (by decide +kernel)) gk_X12_chance
set_option maxRecDepth 20000 in
theorem gk_X11_dug : GoodIn lw_tbl wsX11_dug := goodIn_r _ [784, 298, 301, 654, 655, 26, 656, 333, 334, 335, 604, 605, 606, 785, 786, 787, 30, 788, 210, 789, 790, 791, 35, 792, 255, 798, 793, 795, 10, 796, 253, 252, 757, 758, 799, 800, 801, 802, 803, 371, 370, 39, 804, 805, 806, 807, 808, 721, 41, 722, 723, 724, 725, 306, 308, 310, 312, 314, 316, 318, 320, 322, 324, 326, 213, 215, 217, 219, 221, 223, 256, 258, 260] (by decide +kernel) (by decide +kernel)
set_option maxRecDepth 20000 in
theorem gl_X11_dug : GoodIn lw_tbl (wsV RL 151 RX11 yX11_dug wsX11_dug) := goodIn_app (goodIn_r _ [781, 782, 783, 26] (by decide +kernel) (by decide +kernel)) gk_X11_dug
set_option maxRecDepth 20000 in
theorem gk_X12_dug : GoodIn lw_tbl wsX12_dug := goodIn_r _ [1227, 957, 956, 958, 955, 1228, 1024, 1025, 38, 1026, 1205, 1206, 1207, 1187, 1188, 1189, 960, 962, 964, 966, 968, 970, 972, 974, 976, 978, 980, 982, 984, 986, 988, 990, 992, 994, 996, 998, 1000, 1002, 1004, 1006, 1008, 1010, 1012, 1014, 1016] (by decide +kernel) (by decide +kernel)
set_option maxRecDepth 20000 in
theorem gl_X12_dug : GoodIn lw_tbl (wsV RL 154 RX12 yX12_dug wsX12_dug) := goodIn_app (goodIn_r _ [1224, 1225, 1226, 38] (by decide +kernel) (by decide +kernel)) gk_X12_dug
set_option maxRecDepth 20000 in
theorem gk_X11_believed : GoodIn lw_tbl wsX11_believed := goodIn_r _ [812, 776, 301, 773, 774, 26, 775, 333, 334, 335, 604, 605, 606, 813, 814, 815, 35, 816, 252, 757, 758, 306, 308, 310, 312, 314, 316, 318, 320, 322, 324, 326, 256, 258, 260, 213, 215, 217, 219, 221, 223] (by decide +kernel) (by decide +kernel)
set_option maxRecDepth 20000 in
theorem gl_X11_believed : GoodIn lw_tbl (wsV RL 155 RX11 yX11_believed wsX11_believed) := goodIn_app (goodIn_r _ [809, 810, 811, 26] (by decide +kernel) (by decide +kernel)) gk_X11_believed
set_option maxRecDepth 20000 in
theorem gk_X12_believed : GoodIn lw_tbl wsX12_believed := goodIn_r _ [1232, 1219, 955, 1216, 1217, 38, 1218, 1024, 1025, 1026, 1202, 1203, 1204, 1205, 1206, 1207, 960, 962, 964, 966, 968, 970, 972, 974, 976, 978, 980, 982, 984, 986, 988, 990, 992, 994, 996, 998, 1000, 1002, 1004, 1006, 1008, 1010, 1012, 1014, 1016] (by decide +kernel) (by decide +kernel)
set_option maxRecDepth 20000 in
theorem gl_X12_believed : GoodIn lw_tbl (wsV RL 158 RX12 yX12_believed wsX12_believed) := goodIn_app (goodIn_r _ [1229, 1230, 1231, 38] (by decide +kernel) (by decide +kernel)) gk_X12_believed
set_option maxRecDepth 20000 in
theorem gk_X11_dig : GoodIn lw_tbl wsX11_dig := goodIn_r _ [820, 301, 821, 822, 823, 35, 824, 825, 252, 826, 786, 787, 30, 788, 210, 827, 829, 11, 830, 831, 832, 40, 833, 793, 795, 10, 796, 253, 306, 308, 310, 312, 314, 316, 318, 320, 322, 324, 326, 256, 258, 260, 213, 215, 217, 219, 221, 223] (by decide +kernel) (by decide +kernel)
set_option maxRecDepth 20000 in
theorem gl_X11_dig : GoodIn lw_tbl (wsV RL 159 RX11 yX11_dig wsX11_dig) := goodIn_app (goodIn_r _ [817, 818, 819, 26] (by decide +kernel) (by decide +kernel)) gk_X11_dig
set_option maxRecDepth 20000 in
theorem gk_X12_dig : GoodIn lw_tbl wsX12_dig := goodIn_r _ [1236, 1219, 956, 955, 957, 960, 962, 964, 966, 968, 970, 972, 974, 976, 978, 980, 982, 984, 986, 988, 990, 992, 994, 996, 998, 1000, 1002, 1004, 1006, 1008, 1010, 1012, 1014, 1016] (by decide +kernel) (by decide +kernel)
set_option maxRecDepth 20000 in
theorem gl_X12_dig : GoodIn lw_tbl (wsV RL 162 RX12 yX12_dig wsX12_dig) := goodIn_app (goodIn_r _ [1233, 1234, 1235, 38] (by decide +kernel) (by decide +kernel)) gk_X12_dig
