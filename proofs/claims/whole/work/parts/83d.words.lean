set_option maxRecDepth 20000 in
theorem gk_X11_felled : GoodIn lw_tbl wsX11_felled := goodIn_r _ [603, 297, 593, 594, 26, 595, 333, 334, 335, 604, 605, 606, 607, 608, 609, 29, 610, 103, 105, 306, 308, 310, 312, 314, 316, 318, 320, 322, 324, 326, 110, 112, 114, 116, 118, 120] (by decide +kernel) (by decide +kernel)
set_option maxRecDepth 20000 in
theorem gl_X11_felled : GoodIn lw_tbl (wsV RL 90 RX11 yX11_felled wsX11_felled) := goodIn_app (goodIn_r _ [600, 601, 602, 26] (by decide +kernel) (by decide +kernel)) gk_X11_felled
set_option maxRecDepth 20000 in
theorem gk_X12_felled : GoodIn lw_tbl wsX12_felled := goodIn_r _ [1142, 946, 947, 1136, 1137, 38, 1138, 1024, 1025, 1026, 960, 962, 964, 966, 968, 970, 972, 974, 976, 978, 980, 982, 984, 986, 988, 990, 992, 994, 996, 998, 1000, 1002, 1004, 1006, 1008, 1010, 1012, 1014, 1016] (by decide +kernel) (by decide +kernel)
set_option maxRecDepth 20000 in
theorem gl_X12_felled : GoodIn lw_tbl (wsV RL 93 RX12 yX12_felled wsX12_felled) := goodIn_app (goodIn_r _ [1139, 1140, 1141, 38] (by decide +kernel) (by decide +kernel)) gk_X12_felled
set_option maxRecDepth 20000 in
theorem gk_X11_like : GoodIn lw_tbl wsX11_like := goodIn_r _ [614, 297, 593, 594, 26, 595, 333, 334, 335, 615, 616, 617, 29, 618, 103, 107, 620, 621, 622, 623, 102, 101, 624, 625, 41, 626, 306, 308, 310, 312, 314, 316, 318, 320, 322, 324, 326, 110, 112, 114, 116, 118, 120] (by decide +kernel) (by decide +kernel)
set_option maxRecDepth 20000 in
theorem gl_X11_like : GoodIn lw_tbl (wsV RL 94 RX11 yX11_like wsX11_like) := goodIn_app (goodIn_r _ [611, 612, 613, 26] (by decide +kernel) (by decide +kernel)) gk_X11_like
set_option maxRecDepth 20000 in
theorem gk_X12_like : GoodIn lw_tbl wsX12_like := goodIn_r _ [1146, 946, 944, 1136, 1137, 38, 1138, 1024, 1025, 1026, 1147, 1149, 21, 1150, 948, 945, 960, 962, 964, 966, 968, 970, 972, 974, 976, 978, 980, 982, 984, 986, 988, 990, 992, 994, 996, 998, 1000, 1002, 1004, 1006, 1008, 1010, 1012, 1014, 1016] (by decide +kernel) (by decide +kernel)
set_option maxRecDepth 20000 in
theorem gl_X12_like : GoodIn lw_tbl (wsV RL 97 RX12 yX12_like wsX12_like) := goodIn_app (goodIn_r _ [1143, 1144, 1145, 38] (by decide +kernel) (by decide +kernel)) gk_X12_like
set_option maxRecDepth 20000 in
theorem gk_X11_died : GoodIn lw_tbl wsX11_died := goodIn_r _ [630, 297, 593, 594, 26, 595, 333, 334, 335, 631, 632, 633, 29, 634, 103, 107, 635, 621, 622, 623, 102, 101, 624, 625, 41, 626, 636, 637, 638, 639, 109, 306, 308, 310, 312, 314, 316, 318, 320, 322, 324, 326, 110, 112, 114, 116, 118, 120] (by decide +kernel) (by decide +kernel)
set_option maxRecDepth 20000 in
theorem gl_X11_died : GoodIn lw_tbl (wsV RL 98 RX11 yX11_died wsX11_died) := goodIn_app (goodIn_r _ [627, 628, 629, 26] (by decide +kernel) (by decide +kernel)) gk_X11_died
set_option maxRecDepth 20000 in
theorem gk_X12_died : GoodIn lw_tbl wsX12_died := goodIn_r _ [1154, 943, 946, 947, 1136, 1137, 38, 1138, 1024, 1025, 1026, 1155, 1157, 22, 1158, 944, 1147, 1149, 21, 1150, 948, 945, 960, 962, 964, 966, 968, 970, 972, 974, 976, 978, 980, 982, 984, 986, 988, 990, 992, 994, 996, 998, 1000, 1002, 1004, 1006, 1008, 1010, 1012, 1014, 1016] (by decide +kernel) (by decide +kernel)
set_option maxRecDepth 20000 in
theorem gl_X12_died : GoodIn lw_tbl (wsV RL 101 RX12 yX12_died wsX12_died) := goodIn_app (goodIn_r _ [1151, 1152, 1153, 38] (by decide +kernel) (by decide +kernel)) gk_X12_died
set_option maxRecDepth 20000 in
theorem gk_X11_alike : GoodIn lw_tbl wsX11_alike := goodIn_r _ [643, 297, 644, 645, 646, 29, 647, 105, 648, 632, 633, 634, 103, 107, 635, 621, 622, 623, 102, 101, 624, 625, 41, 626, 649, 637, 638, 639, 109, 306, 308, 310, 312, 314, 316, 318, 320, 322, 324, 326, 110, 112, 114, 116, 118, 120] (by decide +kernel) (by decide +kernel)
set_option maxRecDepth 20000 in
theorem gl_X11_alike : GoodIn lw_tbl (wsV RL 102 RX11 yX11_alike wsX11_alike) := goodIn_app (goodIn_r _ [640, 641, 642, 26] (by decide +kernel) (by decide +kernel)) gk_X11_alike
set_option maxRecDepth 20000 in
theorem gk_X12_alike : GoodIn lw_tbl wsX12_alike := goodIn_r _ [1162, 943, 946, 947, 1155, 1157, 22, 38, 1158, 944, 1147, 1149, 21, 1150, 948, 945, 960, 962, 964, 966, 968, 970, 972, 974, 976, 978, 980, 982, 984, 986, 988, 990, 992, 994, 996, 998, 1000, 1002, 1004, 1006, 1008, 1010, 1012, 1014, 1016] (by decide +kernel) (by decide +kernel)
set_option maxRecDepth 20000 in
theorem gl_X12_alike : GoodIn lw_tbl (wsV RL 105 RX12 yX12_alike wsX12_alike) := goodIn_app (goodIn_r _ [1159, 1160, 1161, 38] (by decide +kernel) (by decide +kernel)) gk_X12_alike
set_option maxRecDepth 20000 in
theorem gk_X11_sheet : GoodIn lw_tbl wsX11_sheet := goodIn_r _ [653, 298, 654, 655, 26, 656, 333, 334, 335, 430, 431, 432, 657, 658, 659, 32, 660, 168, 174, 170, 172, 306, 308, 310, 312, 314, 316, 318, 320, 322, 324, 326, 213, 215, 217, 219, 221, 223, 176, 178, 180, 182] (by decide +kernel) (by decide +kernel)
set_option maxRecDepth 20000 in
theorem gl_X11_sheet : GoodIn lw_tbl (wsV RL 106 RX11 yX11_sheet wsX11_sheet) := goodIn_app (goodIn_r _ [650, 651, 652, 26] (by decide +kernel) (by decide +kernel)) gk_X11_sheet
set_option maxRecDepth 20000 in
theorem gk_X12_sheet : GoodIn lw_tbl wsX12_sheet := goodIn_r _ [1166, 949, 950, 951, 952, 1024, 1025, 38, 1026, 960, 962, 964, 966, 968, 970, 972, 974, 976, 978, 980, 982, 984, 986, 988, 990, 992, 994, 996, 998, 1000, 1002, 1004, 1006, 1008, 1010, 1012, 1014, 1016] (by decide +kernel) (by decide +kernel)
set_option maxRecDepth 20000 in
theorem gl_X12_sheet : GoodIn lw_tbl (wsV RL 109 RX12 yX12_sheet wsX12_sheet) := goodIn_app (goodIn_r _ [1163, 1164, 1165, 38] (by decide +kernel) (by decide +kernel)) gk_X12_sheet
set_option maxRecDepth 20000 in
theorem gk_X11_together : GoodIn lw_tbl wsX11_together := goodIn_r _ [664, 298, 665, 666, 667, 32, 668, 174, 604, 605, 26, 606, 669, 670, 671, 672, 170, 673, 475, 40, 476, 674, 675, 676, 677, 172, 678, 468, 469, 306, 308, 310, 312, 314, 316, 318, 320, 322, 324, 326, 213, 215, 217, 219, 221, 223, 176, 178, 180, 182] (by decide +kernel) (by decide +kernel)
set_option maxRecDepth 20000 in
theorem gl_X11_together : GoodIn lw_tbl (wsV RL 110 RX11 yX11_together wsX11_together) := goodIn_app (goodIn_r _ [661, 662, 663, 26] (by decide +kernel) (by decide +kernel)) gk_X11_together
set_option maxRecDepth 20000 in
theorem gk_X12_together : GoodIn lw_tbl wsX12_together := goodIn_r _ [1170, 949, 951, 952, 1024, 1025, 38, 1026, 960, 962, 964, 966, 968, 970, 972, 974, 976, 978, 980, 982, 984, 986, 988, 990, 992, 994, 996, 998, 1000, 1002, 1004, 1006, 1008, 1010, 1012, 1014, 1016] (by decide +kernel) (by decide +kernel)
set_option maxRecDepth 20000 in
theorem gl_X12_together : GoodIn lw_tbl (wsV RL 113 RX12 yX12_together wsX12_together) := goodIn_app (goodIn_r _ [1167, 1168, 1169, 38] (by decide +kernel) (by decide +kernel)) gk_X12_together
