set_option maxRecDepth 20000 in
theorem gk_X11_init : GoodIn lw_tbl wsX11_init := goodIn_r _ [46, 47, 48, 49, 50, 51, 27, 295, 67, 68, 28, 296, 93, 94, 29, 297, 123, 124, 30, 298, 299, 228, 229, 34, 300, 245, 246, 35, 301, 263, 264, 36, 302, 277, 278, 37, 303, 304, 305, 53, 54, 55, 66, 56, 70, 71, 72, 92, 73, 75, 76, 77, 79, 96, 97, 98, 101, 99, 102, 103, 105, 109, 126, 127, 128, 129, 130, 31, 199, 162, 163, 32, 202, 185, 186, 33, 205, 226, 207, 132, 133, 134, 135, 137, 139, 141, 143, 165, 166, 167, 168, 170, 172, 188, 189, 190, 191, 230, 231, 232, 233, 234, 237, 235, 236, 247, 248, 249, 250, 251, 253, 255, 252, 265, 266, 267, 268, 269, 280, 281, 282, 283, 284, 285, 61, 63, 306, 308, 310, 312, 314, 316, 318, 320, 322, 324, 326, 81, 83, 85, 87, 89, 110, 112, 114, 116, 118, 120, 213, 215, 217, 219, 221, 223, 238, 240, 242, 256, 258, 260, 272, 274, 288, 290, 292, 149, 151, 153, 155, 157, 159, 176, 178, 180, 182, 194, 196] (by decide +kernel) (by decide +kernel)
set_option maxRecDepth 20000 in
theorem gk_X12_init : GoodIn lw_tbl wsX12_init := goodIn_r _ [929, 930, 48, 49, 66, 932, 92, 934, 935, 936, 937, 938, 941, 942, 945, 946, 947, 948, 949, 950, 951, 952, 953, 954, 226, 955, 956, 957, 958, 1019, 959, 943, 960, 962, 964, 966, 968, 970, 972, 974, 976, 978, 980, 982, 984, 986, 988, 990, 992, 994, 996, 998, 1000, 1002, 1004, 1006, 1008, 1010, 1012, 1014, 1016] (by decide +kernel) (by decide +kernel)
set_option maxRecDepth 20000 in
theorem gk_X11_type : GoodIn lw_tbl wsX11_type := goodIn_r _ [332, 295, 333, 334, 26, 335, 336, 337, 338, 27, 339, 57, 56, 306, 308, 310, 312, 314, 316, 318, 320, 322, 324, 326, 61, 63] (by decide +kernel) (by decide +kernel)
set_option maxRecDepth 20000 in
theorem gl_X11_type : GoodIn lw_tbl (wsV RL 15 RX11 yX11_type wsX11_type) := goodIn_app (goodIn_r _ [329, 330, 331, 26] (by decide +kernel) (by decide +kernel)) gk_X11_type
set_option maxRecDepth 20000 in
theorem gk_X12_type : GoodIn lw_tbl wsX12_type := goodIn_r _ [1023, 933, 932, 1027, 1024, 1025, 38, 1026, 960, 962, 964, 966, 968, 970, 972, 974, 976, 978, 980, 982, 984, 986, 988, 990, 992, 994, 996, 998, 1000, 1002, 1004, 1006, 1008, 1010, 1012, 1014, 1016] (by decide +kernel) (by decide +kernel)
set_option maxRecDepth 20000 in
theorem gl_X12_type : GoodIn lw_tbl (wsV RL 19 RX12 yX12_type wsX12_type) := goodIn_app (goodIn_r _ [1020, 1021, 1022, 38] (by decide +kernel) (by decide +kernel)) gk_X12_type
set_option maxRecDepth 20000 in
theorem gk_X11_clear : GoodIn lw_tbl wsX11_clear := goodIn_r _ [343, 295, 344, 345, 346, 27, 347, 57, 306, 308, 310, 312, 314, 316, 318, 320, 322, 324, 326, 61, 63] (by decide +kernel) (by decide +kernel)
set_option maxRecDepth 20000 in
theorem gl_X11_clear : GoodIn lw_tbl (wsV RL 20 RX11 yX11_clear wsX11_clear) := goodIn_app (goodIn_r _ [340, 341, 342, 26] (by decide +kernel) (by decide +kernel)) gk_X11_clear
set_option maxRecDepth 20000 in
theorem gk_X12_clear : GoodIn lw_tbl wsX12_clear := goodIn_r _ [1031, 933, 960, 962, 964, 966, 968, 970, 972, 974, 976, 978, 980, 982, 984, 986, 988, 990, 992, 994, 996, 998, 1000, 1002, 1004, 1006, 1008, 1010, 1012, 1014, 1016] (by decide +kernel) (by decide +kernel)
set_option maxRecDepth 20000 in
theorem gl_X12_clear : GoodIn lw_tbl (wsV RL 24 RX12 yX12_clear wsX12_clear) := goodIn_app (goodIn_r _ [1028, 1029, 1030, 38] (by decide +kernel) (by decide +kernel)) gk_X12_clear
set_option maxRecDepth 20000 in
theorem gk_X11_ocean : GoodIn lw_tbl wsX11_ocean := goodIn_r _ [351, 296, 295, 352, 353, 354, 28, 355, 75, 73, 369, 371, 370, 39, 356, 358, 0, 359, 360, 361, 362, 27, 363, 57, 56, 364, 365, 366, 367, 368, 344, 345, 346, 347, 372, 373, 374, 375, 306, 308, 310, 312, 314, 316, 318, 320, 322, 324, 326, 81, 83, 85, 87, 89, 61, 63] (by decide +kernel) (by decide +kernel)
set_option maxRecDepth 20000 in
theorem gl_X11_ocean : GoodIn lw_tbl (wsV RL 25 RX11 yX11_ocean wsX11_ocean) := goodIn_app (goodIn_r _ [348, 349, 350, 26] (by decide +kernel) (by decide +kernel)) gk_X11_ocean
set_option maxRecDepth 20000 in
theorem gk_X12_ocean : GoodIn lw_tbl wsX12_ocean := goodIn_r _ [1035, 933, 932, 934, 1024, 1025, 38, 1026, 1036, 1038, 12, 1039, 960, 962, 964, 966, 968, 970, 972, 974, 976, 978, 980, 982, 984, 986, 988, 990, 992, 994, 996, 998, 1000, 1002, 1004, 1006, 1008, 1010, 1012, 1014, 1016] (by decide +kernel) (by decide +kernel)
set_option maxRecDepth 20000 in
theorem gl_X12_ocean : GoodIn lw_tbl (wsV RL 28 RX12 yX12_ocean wsX12_ocean) := goodIn_app (goodIn_r _ [1032, 1033, 1034, 38] (by decide +kernel) (by decide +kernel)) gk_X12_ocean
set_option maxRecDepth 20000 in
theorem gk_X11_depth : GoodIn lw_tbl wsX11_depth := goodIn_r _ [379, 296, 380, 381, 26, 382, 333, 334, 335, 306, 308, 310, 312, 314, 316, 318, 320, 322, 324, 326, 81, 83, 85, 87, 89] (by decide +kernel) (by decide +kernel)
set_option maxRecDepth 20000 in
theorem gl_X11_depth : GoodIn lw_tbl (wsV RL 29 RX11 yX11_depth wsX11_depth) := goodIn_app (goodIn_r _ [376, 377, 378, 26] (by decide +kernel) (by decide +kernel)) gk_X11_depth
set_option maxRecDepth 20000 in
theorem gk_X12_depth : GoodIn lw_tbl wsX12_depth := goodIn_r _ [1043, 934, 1044, 1045, 38, 1046, 1024, 1025, 1026, 960, 962, 964, 966, 968, 970, 972, 974, 976, 978, 980, 982, 984, 986, 988, 990, 992, 994, 996, 998, 1000, 1002, 1004, 1006, 1008, 1010, 1012, 1014, 1016] (by decide +kernel) (by decide +kernel)
set_option maxRecDepth 20000 in
theorem gl_X12_depth : GoodIn lw_tbl (wsV RL 33 RX12 yX12_depth wsX12_depth) := goodIn_app (goodIn_r _ [1040, 1041, 1042, 38] (by decide +kernel) (by decide +kernel)) gk_X12_depth
set_option maxRecDepth 20000 in
theorem gk_X11_tune : GoodIn lw_tbl wsX11_tune := goodIn_r _ [386, 296, 305, 333, 334, 26, 335, 387, 388, 389, 306, 308, 310, 312, 314, 316, 318, 320, 322, 324, 326, 81, 83, 85, 87, 89] (by decide +kernel) (by decide +kernel)
set_option maxRecDepth 20000 in
theorem gl_X11_tune : GoodIn lw_tbl (wsV RL 34 RX11 yX11_tune wsX11_tune) := goodIn_app (goodIn_r _ [383, 384, 385, 26] (by decide +kernel) (by decide +kernel)) gk_X11_tune
set_option maxRecDepth 20000 in
theorem gk_X12_tune : GoodIn lw_tbl wsX12_tune := goodIn_r _ [1050, 935, 1024, 1025, 38, 1026, 960, 962, 964, 966, 968, 970, 972, 974, 976, 978, 980, 982, 984, 986, 988, 990, 992, 994, 996, 998, 1000, 1002, 1004, 1006, 1008, 1010, 1012, 1014, 1016] (by decide +kernel) (by decide +kernel)
set_option maxRecDepth 20000 in
theorem gl_X12_tune : GoodIn lw_tbl (wsV RL 38 RX12 yX12_tune wsX12_tune) := goodIn_app (goodIn_r _ [1047, 1048, 1049, 38] (by decide +kernel) (by decide +kernel)) gk_X12_tune
