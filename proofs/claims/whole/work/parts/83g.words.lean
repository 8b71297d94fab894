set_option maxRecDepth 20000 in
theorem gk_X11_minutes : GoodIn lw_tbl wsX11_minutes := goodIn_r _ [837, 296, 838, 425, 426, 427, 28, 428, 73, 381, 26, 382, 333, 334, 335, 839, 840, 841, 842, 76, 398, 399, 400, 401, 402, 404, 1, 405, 406, 408, 2, 409, 77, 306, 308, 310, 312, 314, 316, 318, 320, 322, 324, 326, 81, 83, 85, 87, 89] (by decide +kernel) (by decide +kernel)
set_option maxRecDepth 20000 in
theorem gl_X11_minutes : GoodIn lw_tbl (wsV RL 163 RX11 yX11_minutes wsX11_minutes) := goodIn_app (goodIn_r _ [834, 835, 836, 26] (by decide +kernel) (by decide +kernel)) gk_X11_minutes
set_option maxRecDepth 20000 in
theorem gk_X12_minutes : GoodIn lw_tbl wsX12_minutes := goodIn_r _ [1240, 1241, 936, 934, 1059, 1080, 1082, 17, 38, 1083, 1044, 1045, 1046, 1024, 1025, 1026, 1060, 1062, 14, 1063, 1064, 1066, 15, 1067, 935, 960, 962, 964, 966, 968, 970, 972, 974, 976, 978, 980, 982, 984, 986, 988, 990, 992, 994, 996, 998, 1000, 1002, 1004, 1006, 1008, 1010, 1012, 1014, 1016] (by decide +kernel) (by decide +kernel)
set_option maxRecDepth 20000 in
theorem gl_X12_minutes : GoodIn lw_tbl (wsV RL 166 RX12 yX12_minutes wsX12_minutes) := goodIn_app (goodIn_r _ [1237, 1238, 1239, 38] (by decide +kernel) (by decide +kernel)) gk_X12_minutes
set_option maxRecDepth 20000 in
theorem gk_X11_trust : GoodIn lw_tbl wsX11_trust := goodIn_r _ [846, 298, 494, 302, 333, 334, 26, 335, 847, 848, 849, 36, 850, 270, 269, 851, 852, 853, 854, 855, 856, 857, 858, 859, 32, 860, 174, 170, 172, 861, 862, 863, 864, 865, 866, 867, 868, 869, 870, 871, 666, 667, 668, 872, 708, 709, 710, 168, 873, 874, 721, 41, 722, 723, 724, 725, 875, 876, 877, 878, 879, 880, 881, 882, 883, 884, 885, 306, 308, 310, 312, 314, 316, 318, 320, 322, 324, 326, 213, 215, 217, 219, 221, 223, 176, 178, 180, 182, 272, 274, 149, 151, 153, 155, 157, 159] (by decide +kernel) (by decide +kernel)
set_option maxRecDepth 20000 in
theorem gl_X11_trust : GoodIn lw_tbl (wsV RL 167 RX11 yX11_trust wsX11_trust) := goodIn_app (goodIn_r _ [843, 844, 845, 26] (by decide +kernel) (by decide +kernel)) gk_X11_trust
set_option maxRecDepth 20000 in
theorem gk_X12_trust : GoodIn lw_tbl wsX12_trust := goodIn_r _ [1245, 949, 1096, 950, 951, 952, 931, 1246, 1247, 937, 1248, 1249, 1250, 1024, 1025, 38, 1026, 1187, 1188, 1189, 960, 962, 964, 966, 968, 970, 972, 974, 976, 978, 980, 982, 984, 986, 988, 990, 992, 994, 996, 998, 1000, 1002, 1004, 1006, 1008, 1010, 1012, 1014, 1016] (by decide +kernel) (by decide +kernel)
set_option maxRecDepth 20000 in
theorem gl_X12_trust : GoodIn lw_tbl (wsV RL 170 RX12 yX12_trust wsX12_trust) := goodIn_app (goodIn_r _ [1242, 1243, 1244, 38] (by decide +kernel) (by decide +kernel)) gk_X12_trust
set_option maxRecDepth 20000 in
theorem gk_X11_keep : GoodIn lw_tbl wsX11_keep := goodIn_r _ [889, 299, 298, 890, 891, 26, 892, 333, 334, 335, 893, 894, 895, 30, 896, 199, 202, 205, 207, 912, 371, 370, 39, 210, 897, 898, 899, 31, 900, 135, 901, 137, 139, 141, 143, 145, 902, 903, 904, 32, 905, 168, 906, 170, 172, 174, 907, 908, 909, 33, 910, 191, 911, 192, 306, 308, 310, 312, 314, 316, 318, 320, 322, 324, 326, 213, 215, 217, 219, 221, 223, 176, 178, 180, 182, 149, 151, 153, 155, 157, 159, 194, 196] (by decide +kernel) (by decide +kernel)
set_option maxRecDepth 20000 in
theorem gl_X11_keep : GoodIn lw_tbl (wsV RL 171 RX11 yX11_keep wsX11_keep) := goodIn_app (goodIn_r _ [886, 887, 888, 26] (by decide +kernel) (by decide +kernel)) gk_X11_keep
set_option maxRecDepth 20000 in
theorem gk_X12_keep : GoodIn lw_tbl wsX12_keep := goodIn_r _ [1254, 959, 949, 1024, 1025, 38, 1026, 1255, 1257, 24, 1258, 937, 953, 957, 938, 950, 951, 952, 954, 955, 960, 962, 964, 966, 968, 970, 972, 974, 976, 978, 980, 982, 984, 986, 988, 990, 992, 994, 996, 998, 1000, 1002, 1004, 1006, 1008, 1010, 1012, 1014, 1016] (by decide +kernel) (by decide +kernel)
set_option maxRecDepth 20000 in
theorem gl_X12_keep : GoodIn lw_tbl (wsV RL 174 RX12 yX12_keep wsX12_keep) := goodIn_app (goodIn_r _ [1251, 1252, 1253, 38] (by decide +kernel) (by decide +kernel)) gk_X12_keep
set_option maxRecDepth 20000 in
theorem gk_X11_back : GoodIn lw_tbl wsX11_back := goodIn_r _ [916, 299, 298, 890, 891, 26, 892, 333, 334, 335, 893, 894, 895, 30, 896, 199, 202, 205, 207, 912, 371, 370, 39, 210, 897, 898, 899, 31, 900, 135, 901, 137, 139, 141, 143, 145, 902, 903, 904, 32, 905, 168, 906, 170, 172, 174, 907, 908, 909, 33, 910, 191, 911, 192, 306, 308, 310, 312, 314, 316, 318, 320, 322, 324, 326, 213, 215, 217, 219, 221, 223, 176, 178, 180, 182, 149, 151, 153, 155, 157, 159, 194, 196] (by decide +kernel) (by decide +kernel)
set_option maxRecDepth 20000 in
theorem gl_X11_back : GoodIn lw_tbl (wsV RL 175 RX11 yX11_back wsX11_back) := goodIn_app (goodIn_r _ [913, 914, 915, 26] (by decide +kernel) (by decide +kernel)) gk_X11_back
set_option maxRecDepth 20000 in
theorem gk_X12_back : GoodIn lw_tbl wsX12_back := goodIn_r _ [1262, 959, 949, 1024, 1025, 38, 1026, 1255, 1257, 24, 1258, 937, 953, 957, 938, 950, 951, 952, 954, 955, 960, 962, 964, 966, 968, 970, 972, 974, 976, 978, 980, 982, 984, 986, 988, 990, 992, 994, 996, 998, 1000, 1002, 1004, 1006, 1008, 1010, 1012, 1014, 1016] (by decide +kernel) (by decide +kernel)
set_option maxRecDepth 20000 in
theorem gl_X12_back : GoodIn lw_tbl (wsV RL 178 RX12 yX12_back wsX12_back) := goodIn_app (goodIn_r _ [1259, 1260, 1261, 38] (by decide +kernel) (by decide +kernel)) gk_X12_back
set_option maxRecDepth 20000 in
theorem gk_X11_count : GoodIn lw_tbl wsX11_count := goodIn_r _ [920, 296, 298, 303, 297, 295, 372, 373, 374, 28, 375, 73, 804, 805, 806, 30, 807, 210, 808, 721, 41, 722, 723, 724, 725, 306, 308, 310, 312, 314, 316, 318, 320, 322, 324, 326, 213, 215, 217, 219, 221, 223, 149, 151, 153, 155, 157, 159, 288, 290, 292, 110, 112, 114, 116, 118, 120, 176, 178, 180, 182, 194, 196, 61, 63, 81, 83, 85, 87, 89] (by decide +kernel) (by decide +kernel)
set_option maxRecDepth 20000 in
theorem gl_X11_count : GoodIn lw_tbl (wsV RL 179 RX11 yX11_count wsX11_count) := goodIn_app (goodIn_r _ [917, 918, 919, 26] (by decide +kernel) (by decide +kernel)) gk_X11_count
set_option maxRecDepth 20000 in
theorem gk_X12_count : GoodIn lw_tbl wsX12_count := goodIn_r _ [1266, 937, 941, 944, 949, 953, 957, 933, 1036, 1038, 12, 38, 1039, 934, 1187, 1188, 1189, 960, 962, 964, 966, 968, 970, 972, 974, 976, 978, 980, 982, 984, 986, 988, 990, 992, 994, 996, 998, 1000, 1002, 1004, 1006, 1008, 1010, 1012, 1014, 1016] (by decide +kernel) (by decide +kernel)
set_option maxRecDepth 20000 in
theorem gl_X12_count : GoodIn lw_tbl (wsV RL 182 RX12 yX12_count wsX12_count) := goodIn_app (goodIn_r _ [1263, 1264, 1265, 38] (by decide +kernel) (by decide +kernel)) gk_X12_count
set_option maxRecDepth 20000 in
theorem gk_X11_trace : GoodIn lw_tbl wsX11_trace := goodIn_r _ [924, 302, 306, 308, 310, 312, 314, 316, 318, 320, 322, 324, 326, 272, 274] (by decide +kernel) (by decide +kernel)
set_option maxRecDepth 20000 in
theorem gl_X11_trace : GoodIn lw_tbl (wsV RL 183 RX11 yX11_trace wsX11_trace) := goodIn_app (goodIn_r _ [921, 922, 923, 26] (by decide +kernel) (by decide +kernel)) gk_X11_trace
set_option maxRecDepth 20000 in
theorem gk_X12_trace : GoodIn lw_tbl wsX12_trace := goodIn_r _ [1270, 931, 960, 962, 964, 966, 968, 970, 972, 974, 976, 978, 980, 982, 984, 986, 988, 990, 992, 994, 996, 998, 1000, 1002, 1004, 1006, 1008, 1010, 1012, 1014, 1016] (by decide +kernel) (by decide +kernel)
set_option maxRecDepth 20000 in
theorem gl_X12_trace : GoodIn lw_tbl (wsV RL 187 RX12 yX12_trace wsX12_trace) := goodIn_app (goodIn_r _ [1267, 1268, 1269, 38] (by decide +kernel) (by decide +kernel)) gk_X12_trace
