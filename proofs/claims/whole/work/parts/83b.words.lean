set_option maxRecDepth 20000 in
theorem gk_X11_time : GoodIn lw_tbl wsX11_time := goodIn_r _ [393, 296, 380, 381, 26, 382, 333, 334, 335, 394, 395, 396, 28, 397, 76, 398, 399, 400, 401, 73, 402, 404, 1, 405, 406, 408, 2, 409, 77, 306, 308, 310, 312, 314, 316, 318, 320, 322, 324, 326, 81, 83, 85, 87, 89] (by decide +kernel) (by decide +kernel)
set_option maxRecDepth 20000 in
theorem gl_X11_time : GoodIn lw_tbl (wsV RL 39 RX11 yX11_time wsX11_time) := goodIn_app (goodIn_r _ [390, 391, 392, 26] (by decide +kernel) (by decide +kernel)) gk_X11_time
set_option maxRecDepth 20000 in
theorem gk_X12_time : GoodIn lw_tbl wsX12_time := goodIn_r _ [1054, 936, 1059, 1044, 1045, 38, 1046, 1024, 1025, 1026, 1055, 1057, 13, 1058, 934, 1060, 1062, 14, 1063, 1064, 1066, 15, 1067, 935, 960, 962, 964, 966, 968, 970, 972, 974, 976, 978, 980, 982, 984, 986, 988, 990, 992, 994, 996, 998, 1000, 1002, 1004, 1006, 1008, 1010, 1012, 1014, 1016] (by decide +kernel) (by decide +kernel)
set_option maxRecDepth 20000 in
theorem gl_X12_time : GoodIn lw_tbl (wsV RL 42 RX12 yX12_time wsX12_time) := goodIn_app (goodIn_r _ [1051, 1052, 1053, 38] (by decide +kernel) (by decide +kernel)) gk_X12_time
set_option maxRecDepth 20000 in
theorem gk_X11_height : GoodIn lw_tbl wsX11_height := goodIn_r _ [413, 296, 380, 381, 26, 382, 333, 334, 335, 414, 415, 416, 394, 395, 396, 28, 397, 76, 398, 399, 400, 401, 73, 402, 404, 1, 405, 406, 408, 2, 409, 77, 417, 418, 419, 420, 79, 306, 308, 310, 312, 314, 316, 318, 320, 322, 324, 326, 81, 83, 85, 87, 89] (by decide +kernel) (by decide +kernel)
set_option maxRecDepth 20000 in
theorem gl_X11_height : GoodIn lw_tbl (wsV RL 43 RX11 yX11_height wsX11_height) := goodIn_app (goodIn_r _ [410, 411, 412, 26] (by decide +kernel) (by decide +kernel)) gk_X11_height
set_option maxRecDepth 20000 in
theorem gk_X12_height : GoodIn lw_tbl wsX12_height := goodIn_r _ [1071, 936, 1059, 1044, 1045, 38, 1046, 1024, 1025, 1026, 1055, 1057, 13, 1058, 934, 1060, 1062, 14, 1063, 1064, 1066, 15, 1067, 935, 1072, 1074, 16, 1075, 960, 962, 964, 966, 968, 970, 972, 974, 976, 978, 980, 982, 984, 986, 988, 990, 992, 994, 996, 998, 1000, 1002, 1004, 1006, 1008, 1010, 1012, 1014, 1016] (by decide +kernel) (by decide +kernel)
set_option maxRecDepth 20000 in
theorem gl_X12_height : GoodIn lw_tbl (wsV RL 47 RX12 yX12_height wsX12_height) := goodIn_app (goodIn_r _ [1068, 1069, 1070, 38] (by decide +kernel) (by decide +kernel)) gk_X12_height
set_option maxRecDepth 20000 in
theorem gk_X11_book : GoodIn lw_tbl wsX11_book := goodIn_r _ [424, 296, 298, 425, 426, 427, 28, 428, 73, 381, 26, 382, 333, 334, 335, 430, 431, 432, 433, 434, 435, 31, 436, 135, 145, 137, 139, 141, 143, 306, 308, 310, 312, 314, 316, 318, 320, 322, 324, 326, 213, 215, 217, 219, 221, 223, 149, 151, 153, 155, 157, 159, 81, 83, 85, 87, 89] (by decide +kernel) (by decide +kernel)
set_option maxRecDepth 20000 in
theorem gl_X11_book : GoodIn lw_tbl (wsV RL 48 RX11 yX11_book wsX11_book) := goodIn_app (goodIn_r _ [421, 422, 423, 26] (by decide +kernel) (by decide +kernel)) gk_X11_book
set_option maxRecDepth 20000 in
theorem gk_X12_book : GoodIn lw_tbl wsX12_book := goodIn_r _ [1079, 937, 938, 1080, 1082, 17, 38, 1083, 934, 1044, 1045, 1046, 1024, 1025, 1026, 960, 962, 964, 966, 968, 970, 972, 974, 976, 978, 980, 982, 984, 986, 988, 990, 992, 994, 996, 998, 1000, 1002, 1004, 1006, 1008, 1010, 1012, 1014, 1016] (by decide +kernel) (by decide +kernel)
set_option maxRecDepth 20000 in
theorem gl_X12_book : GoodIn lw_tbl (wsV RL 52 RX12 yX12_book wsX12_book) := goodIn_app (goodIn_r _ [1076, 1077, 1078, 38] (by decide +kernel) (by decide +kernel)) gk_X12_book
set_option maxRecDepth 20000 in
theorem gk_X11_begins : GoodIn lw_tbl wsX11_begins := goodIn_r _ [440, 296, 298, 300, 425, 426, 427, 28, 428, 73, 381, 26, 382, 333, 334, 335, 414, 415, 416, 441, 442, 443, 34, 444, 236, 235, 237, 445, 399, 400, 401, 402, 404, 1, 405, 406, 408, 2, 409, 77, 446, 447, 448, 449, 450, 452, 3, 453, 454, 418, 419, 420, 79, 455, 457, 4, 458, 474, 475, 40, 476, 459, 461, 5, 462, 463, 464, 465, 466, 467, 468, 469, 470, 471, 472, 473, 306, 308, 310, 312, 314, 316, 318, 320, 322, 324, 326, 213, 215, 217, 219, 221, 223, 149, 151, 153, 155, 157, 159, 81, 83, 85, 87, 89, 238, 240, 242] (by decide +kernel) (by decide +kernel)
set_option maxRecDepth 20000 in
theorem gl_X11_begins : GoodIn lw_tbl (wsV RL 53 RX11 yX11_begins wsX11_begins) := goodIn_app (goodIn_r _ [437, 438, 439, 26] (by decide +kernel) (by decide +kernel)) gk_X11_begins
set_option maxRecDepth 20000 in
theorem gk_X12_begins : GoodIn lw_tbl wsX12_begins := goodIn_r _ [1087, 937, 1080, 1082, 17, 38, 1083, 934, 1044, 1045, 1046, 1024, 1025, 1026, 1055, 1057, 13, 1058, 936, 1059, 1060, 1062, 14, 1063, 1064, 1066, 15, 1067, 935, 1088, 1090, 18, 1091, 940, 939, 1092, 1094, 19, 1095, 1096, 938, 1072, 1074, 16, 1075, 960, 962, 964, 966, 968, 970, 972, 974, 976, 978, 980, 982, 984, 986, 988, 990, 992, 994, 996, 998, 1000, 1002, 1004, 1006, 1008, 1010, 1012, 1014, 1016] (by decide +kernel) (by decide +kernel)
set_option maxRecDepth 20000 in
theorem gl_X12_begins : GoodIn lw_tbl (wsV RL 56 RX12 yX12_begins wsX12_begins) := goodIn_app (goodIn_r _ [1084, 1085, 1086, 38] (by decide +kernel) (by decide +kernel)) gk_X12_begins
set_option maxRecDepth 20000 in
theorem gk_X11_ways : GoodIn lw_tbl wsX11_ways := goodIn_r _ [480, 296, 298, 300, 425, 426, 427, 28, 428, 73, 381, 26, 382, 333, 334, 335, 441, 442, 443, 34, 444, 236, 235, 237, 445, 399, 400, 401, 402, 404, 1, 405, 406, 408, 2, 409, 77, 481, 482, 483, 484, 485, 486, 487, 488, 455, 457, 4, 458, 474, 475, 40, 476, 459, 461, 5, 462, 463, 464, 465, 466, 467, 468, 469, 470, 471, 472, 473, 450, 452, 3, 453, 454, 418, 419, 420, 79, 489, 306, 308, 310, 312, 314, 316, 318, 320, 322, 324, 326, 213, 215, 217, 219, 221, 223, 149, 151, 153, 155, 157, 159, 81, 83, 85, 87, 89, 238, 240, 242] (by decide +kernel) (by decide +kernel)
set_option maxRecDepth 20000 in
theorem gl_X11_ways : GoodIn lw_tbl (wsV RL 57 RX11 yX11_ways wsX11_ways) := goodIn_app (goodIn_r _ [477, 478, 479, 26] (by decide +kernel) (by decide +kernel)) gk_X11_ways
set_option maxRecDepth 20000 in
theorem gk_X12_ways : GoodIn lw_tbl wsX12_ways := goodIn_r _ [1100, 937, 1080, 1082, 17, 38, 1083, 934, 1044, 1045, 1046, 1024, 1025, 1026, 1101, 1103, 20, 1104, 1055, 1057, 13, 1058, 936, 1059, 1060, 1062, 14, 1063, 1064, 1066, 15, 1067, 935, 1088, 1090, 18, 1091, 940, 939, 1092, 1094, 19, 1095, 1096, 938, 1072, 1074, 16, 1075, 960, 962, 964, 966, 968, 970, 972, 974, 976, 978, 980, 982, 984, 986, 988, 990, 992, 994, 996, 998, 1000, 1002, 1004, 1006, 1008, 1010, 1012, 1014, 1016] (by decide +kernel) (by decide +kernel)
set_option maxRecDepth 20000 in
theorem gl_X12_ways : GoodIn lw_tbl (wsV RL 60 RX12 yX12_ways wsX12_ways) := goodIn_app (goodIn_r _ [1097, 1098, 1099, 38] (by decide +kernel) (by decide +kernel)) gk_X12_ways
set_option maxRecDepth 20000 in
theorem gk_X11_whence : GoodIn lw_tbl wsX11_whence := goodIn_r _ [493, 298, 494, 300, 333, 334, 26, 335, 441, 442, 443, 34, 444, 236, 235, 237, 445, 399, 400, 28, 401, 73, 402, 404, 1, 405, 406, 408, 2, 409, 77, 495, 496, 497, 498, 485, 486, 487, 488, 455, 457, 4, 458, 474, 475, 40, 476, 459, 461, 5, 462, 463, 464, 465, 466, 467, 468, 469, 470, 471, 472, 473, 450, 452, 3, 453, 454, 418, 419, 420, 79, 499, 500, 501, 502, 503, 504, 505, 506, 507, 508, 509, 306, 308, 310, 312, 314, 316, 318, 320, 322, 324, 326, 213, 215, 217, 219, 221, 223, 149, 151, 153, 155, 157, 159, 238, 240, 242, 81, 83, 85, 87, 89] (by decide +kernel) (by decide +kernel)
set_option maxRecDepth 20000 in
theorem gl_X11_whence : GoodIn lw_tbl (wsV RL 61 RX11 yX11_whence wsX11_whence) := goodIn_app (goodIn_r _ [490, 491, 492, 26] (by decide +kernel) (by decide +kernel)) gk_X11_whence
set_option maxRecDepth 20000 in
theorem gk_X12_whence : GoodIn lw_tbl wsX12_whence := goodIn_r _ [1108, 937, 1096, 939, 940, 1024, 1025, 38, 1026, 1080, 1082, 17, 1083, 934, 1044, 1045, 1046, 1101, 1103, 20, 1104, 1055, 1057, 13, 1058, 936, 1059, 1060, 1062, 14, 1063, 1064, 1066, 15, 1067, 935, 1088, 1090, 18, 1091, 1092, 1094, 19, 1095, 938, 1072, 1074, 16, 1075, 960, 962, 964, 966, 968, 970, 972, 974, 976, 978, 980, 982, 984, 986, 988, 990, 992, 994, 996, 998, 1000, 1002, 1004, 1006, 1008, 1010, 1012, 1014, 1016] (by decide +kernel) (by decide +kernel)
set_option maxRecDepth 20000 in
theorem gl_X12_whence : GoodIn lw_tbl (wsV RL 64 RX12 yX12_whence wsX12_whence) := goodIn_app (goodIn_r _ [1105, 1106, 1107, 38] (by decide +kernel) (by decide +kernel)) gk_X12_whence
