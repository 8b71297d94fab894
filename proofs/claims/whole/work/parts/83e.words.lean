set_option maxRecDepth 20000 in
theorem gk_X11_slips : GoodIn lw_tbl wsX11_slips := goodIn_r _ [682, 298, 698, 475, 40, 476, 683, 684, 685, 32, 686, 687, 666, 667, 668, 174, 688, 675, 676, 677, 172, 678, 468, 469, 689, 690, 691, 692, 170, 334, 26, 335, 694, 695, 696, 697, 168, 673, 306, 308, 310, 312, 314, 316, 318, 320, 322, 324, 326, 213, 215, 217, 219, 221, 223, 176, 178, 180, 182] (by decide +kernel) (by decide +kernel)
set_option maxRecDepth 20000 in
theorem gl_X11_slips : GoodIn lw_tbl (wsV RL 114 RX11 yX11_slips wsX11_slips) := goodIn_app (goodIn_r _ [679, 680, 681, 26] (by decide +kernel) (by decide +kernel)) gk_X11_slips
set_option maxRecDepth 20000 in
theorem gk_X12_slips : GoodIn lw_tbl wsX12_slips := goodIn_r _ [1174, 1059, 949, 951, 952, 950, 960, 962, 964, 966, 968, 970, 972, 974, 976, 978, 980, 982, 984, 986, 988, 990, 992, 994, 996, 998, 1000, 1002, 1004, 1006, 1008, 1010, 1012, 1014, 1016] (by decide +kernel) (by decide +kernel)
set_option maxRecDepth 20000 in
theorem gl_X12_slips : GoodIn lw_tbl (wsV RL 117 RX12 yX12_slips wsX12_slips) := goodIn_app (goodIn_r _ [1171, 1172, 1173, 38] (by decide +kernel) (by decide +kernel)) gk_X12_slips
set_option maxRecDepth 20000 in
theorem gk_X11_joined : GoodIn lw_tbl wsX11_joined := goodIn_r _ [702, 298, 387, 388, 26, 389, 333, 334, 335, 703, 704, 705, 32, 706, 689, 690, 691, 692, 174, 170, 172, 707, 708, 709, 710, 168, 306, 308, 310, 312, 314, 316, 318, 320, 322, 324, 326, 213, 215, 217, 219, 221, 223, 176, 178, 180, 182] (by decide +kernel) (by decide +kernel)
set_option maxRecDepth 20000 in
theorem gl_X11_joined : GoodIn lw_tbl (wsV RL 118 RX11 yX11_joined wsX11_joined) := goodIn_app (goodIn_r _ [699, 700, 701, 26] (by decide +kernel) (by decide +kernel)) gk_X11_joined
set_option maxRecDepth 20000 in
theorem gk_X12_joined : GoodIn lw_tbl wsX12_joined := goodIn_r _ [1178, 1024, 1025, 38, 1026, 1179, 1181, 23, 1182, 949, 951, 952, 950, 960, 962, 964, 966, 968, 970, 972, 974, 976, 978, 980, 982, 984, 986, 988, 990, 992, 994, 996, 998, 1000, 1002, 1004, 1006, 1008, 1010, 1012, 1014, 1016] (by decide +kernel) (by decide +kernel)
set_option maxRecDepth 20000 in
theorem gl_X12_joined : GoodIn lw_tbl (wsV RL 121 RX12 yX12_joined wsX12_joined) := goodIn_app (goodIn_r _ [1175, 1176, 1177, 38] (by decide +kernel) (by decide +kernel)) gk_X12_joined
set_option maxRecDepth 20000 in
theorem gk_X11_whole : GoodIn lw_tbl wsX11_whole := goodIn_r _ [714, 298, 604, 605, 26, 606, 715, 716, 717, 32, 718, 174, 170, 719, 704, 705, 706, 689, 690, 691, 692, 172, 334, 335, 707, 708, 709, 710, 168, 720, 721, 41, 722, 723, 724, 725, 703, 726, 306, 308, 310, 312, 314, 316, 318, 320, 322, 324, 326, 213, 215, 217, 219, 221, 223, 176, 178, 180, 182] (by decide +kernel) (by decide +kernel)
set_option maxRecDepth 20000 in
theorem gl_X11_whole : GoodIn lw_tbl (wsV RL 122 RX11 yX11_whole wsX11_whole) := goodIn_app (goodIn_r _ [711, 712, 713, 26] (by decide +kernel) (by decide +kernel)) gk_X11_whole
set_option maxRecDepth 20000 in
theorem gk_X12_whole : GoodIn lw_tbl wsX12_whole := goodIn_r _ [1186, 949, 951, 1024, 1025, 38, 1026, 1179, 1181, 23, 1182, 952, 950, 1187, 1188, 1189, 960, 962, 964, 966, 968, 970, 972, 974, 976, 978, 980, 982, 984, 986, 988, 990, 992, 994, 996, 998, 1000, 1002, 1004, 1006, 1008, 1010, 1012, 1014, 1016] (by decide +kernel) (by decide +kernel)
set_option maxRecDepth 20000 in
theorem gl_X12_whole : GoodIn lw_tbl (wsV RL 125 RX12 yX12_whole wsX12_whole) := goodIn_app (goodIn_r _ [1183, 1184, 1185, 38] (by decide +kernel) (by decide +kernel)) gk_X12_whole
set_option maxRecDepth 20000 in
theorem gk_X11_tale : GoodIn lw_tbl wsX11_tale := goodIn_r _ [730, 494, 387, 388, 26, 389, 333, 334, 335, 604, 605, 606, 430, 431, 432] (by decide +kernel) (by decide +kernel)
set_option maxRecDepth 20000 in
theorem gl_X11_tale : GoodIn lw_tbl (wsV RL 126 RX11 yX11_tale wsX11_tale) := goodIn_app (goodIn_r _ [727, 728, 729, 26] (by decide +kernel) (by decide +kernel)) gk_X11_tale
set_option maxRecDepth 20000 in
theorem gk_X12_tale : GoodIn lw_tbl wsX12_tale := goodIn_r _ [1193, 1096, 1024, 1025, 38, 1026] (by decide +kernel) (by decide +kernel)
set_option maxRecDepth 20000 in
theorem gl_X12_tale : GoodIn lw_tbl (wsV RL 129 RX12 yX12_tale wsX12_tale) := goodIn_app (goodIn_r _ [1190, 1191, 1192, 38] (by decide +kernel) (by decide +kernel)) gk_X12_tale
set_option maxRecDepth 20000 in
theorem gk_X11_known : GoodIn lw_tbl wsX11_known := goodIn_r _ [734, 298, 387, 388, 26, 389, 333, 334, 335, 735, 736, 737, 33, 738, 192, 191, 739, 740, 741, 742, 306, 308, 310, 312, 314, 316, 318, 320, 322, 324, 326, 213, 215, 217, 219, 221, 223, 194, 196] (by decide +kernel) (by decide +kernel)
set_option maxRecDepth 20000 in
theorem gl_X11_known : GoodIn lw_tbl (wsV RL 130 RX11 yX11_known wsX11_known) := goodIn_app (goodIn_r _ [731, 732, 733, 26] (by decide +kernel) (by decide +kernel)) gk_X11_known
set_option maxRecDepth 20000 in
theorem gk_X12_known : GoodIn lw_tbl wsX12_known := goodIn_r _ [1197, 953, 954, 1024, 1025, 38, 1026, 960, 962, 964, 966, 968, 970, 972, 974, 976, 978, 980, 982, 984, 986, 988, 990, 992, 994, 996, 998, 1000, 1002, 1004, 1006, 1008, 1010, 1012, 1014, 1016] (by decide +kernel) (by decide +kernel)
set_option maxRecDepth 20000 in
theorem gl_X12_known : GoodIn lw_tbl (wsV RL 133 RX12 yX12_known wsX12_known) := goodIn_app (goodIn_r _ [1194, 1195, 1196, 38] (by decide +kernel) (by decide +kernel)) gk_X12_known
set_option maxRecDepth 20000 in
theorem gk_X11_next : GoodIn lw_tbl wsX11_next := goodIn_r _ [746, 494, 298, 305, 333, 334, 26, 335, 604, 605, 606, 747, 748, 749, 33, 750, 192, 191, 751, 752, 754, 9, 755, 757, 758, 306, 308, 310, 312, 314, 316, 318, 320, 322, 324, 326, 213, 215, 217, 219, 221, 223, 194, 196] (by decide +kernel) (by decide +kernel)
set_option maxRecDepth 20000 in
theorem gl_X11_next : GoodIn lw_tbl (wsV RL 134 RX11 yX11_next wsX11_next) := goodIn_app (goodIn_r _ [743, 744, 745, 26] (by decide +kernel) (by decide +kernel)) gk_X11_next
set_option maxRecDepth 20000 in
theorem gk_X12_next : GoodIn lw_tbl wsX12_next := goodIn_r _ [1201, 953, 935, 954, 1096, 1024, 1025, 38, 1026, 1202, 1203, 1204, 1205, 1206, 1207, 960, 962, 964, 966, 968, 970, 972, 974, 976, 978, 980, 982, 984, 986, 988, 990, 992, 994, 996, 998, 1000, 1002, 1004, 1006, 1008, 1010, 1012, 1014, 1016] (by decide +kernel) (by decide +kernel)
set_option maxRecDepth 20000 in
theorem gl_X12_next : GoodIn lw_tbl (wsV RL 137 RX12 yX12_next wsX12_next) := goodIn_app (goodIn_r _ [1198, 1199, 1200, 38] (by decide +kernel) (by decide +kernel)) gk_X12_next
