set_option maxRecDepth 20000 in
theorem gk_X11_calendar : GoodIn lw_tbl wsX11_calendar := goodIn_r _ [513, 304, 295, 303, 514, 515, 516, 37, 517, 286, 523, 475, 40, 476, 518, 519, 520, 27, 521, 57, 522, 365, 366, 367, 368, 361, 362, 363, 56, 524, 525, 527, 6, 528, 285, 529, 530, 531, 532, 533, 535, 7, 536, 284, 344, 345, 346, 347, 306, 308, 310, 312, 314, 316, 318, 320, 322, 324, 326, 288, 290, 292, 61, 63] (by decide +kernel) (by decide +kernel)
set_option maxRecDepth 20000 in
theorem gl_X11_calendar : GoodIn lw_tbl (wsV RL 65 RX11 yX11_calendar wsX11_calendar) := goodIn_app (goodIn_r _ [510, 511, 512, 26] (by decide +kernel) (by decide +kernel)) gk_X11_calendar
set_option maxRecDepth 20000 in
theorem gk_X12_calendar : GoodIn lw_tbl wsX12_calendar := goodIn_r _ [1112, 933, 932, 942, 941, 1113, 1114, 38, 1115, 1024, 1025, 1026, 960, 962, 964, 966, 968, 970, 972, 974, 976, 978, 980, 982, 984, 986, 988, 990, 992, 994, 996, 998, 1000, 1002, 1004, 1006, 1008, 1010, 1012, 1014, 1016] (by decide +kernel) (by decide +kernel)
set_option maxRecDepth 20000 in
theorem gl_X12_calendar : GoodIn lw_tbl (wsV RL 68 RX12 yX12_calendar wsX12_calendar) := goodIn_app (goodIn_r _ [1109, 1110, 1111, 38] (by decide +kernel) (by decide +kernel)) gk_X12_calendar
set_option maxRecDepth 20000 in
theorem gk_X11_clock : GoodIn lw_tbl wsX11_clock := goodIn_r _ [540, 303, 494, 541, 542, 543, 37, 544, 286, 285, 284, 334, 26, 335, 333, 546, 547, 548, 549, 550, 552, 8, 553, 306, 308, 310, 312, 314, 316, 318, 320, 322, 324, 326, 288, 290, 292] (by decide +kernel) (by decide +kernel)
set_option maxRecDepth 20000 in
theorem gl_X11_clock : GoodIn lw_tbl (wsV RL 69 RX11 yX11_clock wsX11_clock) := goodIn_app (goodIn_r _ [537, 538, 539, 26] (by decide +kernel) (by decide +kernel)) gk_X11_clock
set_option maxRecDepth 20000 in
theorem gk_X12_clock : GoodIn lw_tbl wsX12_clock := goodIn_r _ [1119, 941, 942, 1096, 1024, 1025, 38, 1026, 960, 962, 964, 966, 968, 970, 972, 974, 976, 978, 980, 982, 984, 986, 988, 990, 992, 994, 996, 998, 1000, 1002, 1004, 1006, 1008, 1010, 1012, 1014, 1016] (by decide +kernel) (by decide +kernel)
set_option maxRecDepth 20000 in
theorem gl_X12_clock : GoodIn lw_tbl (wsV RL 73 RX12 yX12_clock wsX12_clock) := goodIn_app (goodIn_r _ [1116, 1117, 1118, 38] (by decide +kernel) (by decide +kernel)) gk_X12_clock
set_option maxRecDepth 20000 in
theorem gk_X11_told : GoodIn lw_tbl wsX11_told := goodIn_r _ [557, 494, 558, 559, 303, 564, 333, 334, 26, 335, 560, 561, 562, 37, 563, 286, 285, 550, 552, 8, 553, 284, 565, 566, 567, 568, 569, 306, 308, 310, 312, 314, 316, 318, 320, 322, 324, 326, 288, 290, 292] (by decide +kernel) (by decide +kernel)
set_option maxRecDepth 20000 in
theorem gl_X11_told : GoodIn lw_tbl (wsV RL 74 RX11 yX11_told wsX11_told) := goodIn_app (goodIn_r _ [554, 555, 556, 26] (by decide +kernel) (by decide +kernel)) gk_X11_told
set_option maxRecDepth 20000 in
theorem gk_X12_told : GoodIn lw_tbl wsX12_told := goodIn_r _ [1123, 1096, 941, 942, 1024, 1025, 38, 1026, 960, 962, 964, 966, 968, 970, 972, 974, 976, 978, 980, 982, 984, 986, 988, 990, 992, 994, 996, 998, 1000, 1002, 1004, 1006, 1008, 1010, 1012, 1014, 1016] (by decide +kernel) (by decide +kernel)
set_option maxRecDepth 20000 in
theorem gl_X12_told : GoodIn lw_tbl (wsV RL 77 RX12 yX12_told wsX12_told) := goodIn_app (goodIn_r _ [1120, 1121, 1122, 38] (by decide +kernel) (by decide +kernel)) gk_X12_told
set_option maxRecDepth 20000 in
theorem gk_X11_ring : GoodIn lw_tbl wsX11_ring := goodIn_r _ [573, 297, 574, 575, 26, 576, 333, 334, 335, 577, 578, 579, 29, 580, 101, 107, 306, 308, 310, 312, 314, 316, 318, 320, 322, 324, 326, 110, 112, 114, 116, 118, 120] (by decide +kernel) (by decide +kernel)
set_option maxRecDepth 20000 in
theorem gl_X11_ring : GoodIn lw_tbl (wsV RL 78 RX11 yX11_ring wsX11_ring) := goodIn_app (goodIn_r _ [570, 571, 572, 26] (by decide +kernel) (by decide +kernel)) gk_X11_ring
set_option maxRecDepth 20000 in
theorem gk_X12_ring : GoodIn lw_tbl wsX12_ring := goodIn_r _ [1127, 944, 945, 1024, 1025, 38, 1026, 960, 962, 964, 966, 968, 970, 972, 974, 976, 978, 980, 982, 984, 986, 988, 990, 992, 994, 996, 998, 1000, 1002, 1004, 1006, 1008, 1010, 1012, 1014, 1016] (by decide +kernel) (by decide +kernel)
set_option maxRecDepth 20000 in
theorem gl_X12_ring : GoodIn lw_tbl (wsV RL 81 RX12 yX12_ring wsX12_ring) := goodIn_app (goodIn_r _ [1124, 1125, 1126, 38] (by decide +kernel) (by decide +kernel)) gk_X12_ring
set_option maxRecDepth 20000 in
theorem gk_X11_living : GoodIn lw_tbl wsX11_living := goodIn_r _ [584, 297, 387, 388, 26, 389, 333, 334, 335, 585, 586, 587, 29, 588, 107, 109, 306, 308, 310, 312, 314, 316, 318, 320, 322, 324, 326, 110, 112, 114, 116, 118, 120] (by decide +kernel) (by decide +kernel)
set_option maxRecDepth 20000 in
theorem gl_X11_living : GoodIn lw_tbl (wsV RL 82 RX11 yX11_living wsX11_living) := goodIn_app (goodIn_r _ [581, 582, 583, 26] (by decide +kernel) (by decide +kernel)) gk_X11_living
set_option maxRecDepth 20000 in
theorem gk_X12_living : GoodIn lw_tbl wsX12_living := goodIn_r _ [1131, 944, 943, 1024, 1025, 38, 1026, 960, 962, 964, 966, 968, 970, 972, 974, 976, 978, 980, 982, 984, 986, 988, 990, 992, 994, 996, 998, 1000, 1002, 1004, 1006, 1008, 1010, 1012, 1014, 1016] (by decide +kernel) (by decide +kernel)
set_option maxRecDepth 20000 in
theorem gl_X12_living : GoodIn lw_tbl (wsV RL 85 RX12 yX12_living wsX12_living) := goodIn_app (goodIn_r _ [1128, 1129, 1130, 38] (by decide +kernel) (by decide +kernel)) gk_X12_living
set_option maxRecDepth 20000 in
theorem gk_X11_wood : GoodIn lw_tbl wsX11_wood := goodIn_r _ [592, 297, 593, 594, 26, 595, 333, 334, 335, 574, 575, 576, 596, 597, 598, 29, 599, 102, 103, 306, 308, 310, 312, 314, 316, 318, 320, 322, 324, 326, 110, 112, 114, 116, 118, 120] (by decide +kernel) (by decide +kernel)
set_option maxRecDepth 20000 in
theorem gl_X11_wood : GoodIn lw_tbl (wsV RL 86 RX11 yX11_wood wsX11_wood) := goodIn_app (goodIn_r _ [589, 590, 591, 26] (by decide +kernel) (by decide +kernel)) gk_X11_wood
set_option maxRecDepth 20000 in
theorem gk_X12_wood : GoodIn lw_tbl wsX12_wood := goodIn_r _ [1135, 946, 948, 1136, 1137, 38, 1138, 1024, 1025, 1026, 960, 962, 964, 966, 968, 970, 972, 974, 976, 978, 980, 982, 984, 986, 988, 990, 992, 994, 996, 998, 1000, 1002, 1004, 1006, 1008, 1010, 1012, 1014, 1016] (by decide +kernel) (by decide +kernel)
set_option maxRecDepth 20000 in
theorem gl_X12_wood : GoodIn lw_tbl (wsV RL 89 RX12 yX12_wood wsX12_wood) := goodIn_app (goodIn_r _ [1132, 1133, 1134, 38] (by decide +kernel) (by decide +kernel)) gk_X12_wood
