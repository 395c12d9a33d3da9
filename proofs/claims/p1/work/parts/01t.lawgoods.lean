/-! Of the printed rows those that are used. -/
set_option maxRecDepth 20000 in
theorem ggL_law_L_cell : GoodIn wsL_law wsL_cell := goodIn_r _ [9] (by decide +kernel) (by decide +kernel)
set_option maxRecDepth 20000 in
theorem gL_law_L_cell : GoodIn wsL_law (va_wsS RL 9 yL_cell wsL_cell) := goodIn_app (goodIn_of _ (by decide +kernel)) ggL_law_L_cell
theorem ggL_law_X8_init_h : GoodIn wsL_law [.code yX8_init cX8_init 3 none] := goodIn_r _ [12] (by decide +kernel) (by decide +kernel)
theorem ggL_law_X8_init_wsX8_init_r1 : GoodIn wsL_law wsX8_init_r1 := goodIn_r _ [13, 14, 15, 16, 17, 18, 19, 20, 21, 22, 23, 24, 25, 26, 27, 28, 29, 30, 31, 32, 33, 34, 35, 36] (by decide +kernel) (by decide +kernel)
theorem ggL_law_X8_init_wsX8_init_r2 : GoodIn wsL_law wsX8_init_r2 := goodIn_r _ [37, 38, 39, 40, 41, 42, 43, 44, 45, 46, 47, 48, 49, 50, 51, 52, 53, 54, 55, 56, 57, 58, 59, 60] (by decide +kernel) (by decide +kernel)
theorem ggL_law_X8_init_wsX8_init_r3 : GoodIn wsL_law wsX8_init_r3 := goodIn_r _ [61, 62, 63, 64, 65, 66, 67, 68, 69, 70, 71, 72, 73, 74, 75, 76, 77, 78, 79, 80, 81, 82, 83, 84] (by decide +kernel) (by decide +kernel)
theorem ggL_law_X8_init_wsX8_init_r4 : GoodIn wsL_law wsX8_init_r4 := goodIn_r _ [85, 86, 87, 88, 89, 90, 91, 92, 93, 94, 95, 96, 97, 98, 99, 100, 101, 102, 103, 104, 105, 106, 107, 108] (by decide +kernel) (by decide +kernel)
theorem ggL_law_X8_init_wsX8_init_r5 : GoodIn wsL_law wsX8_init_r5 := goodIn_r _ [109, 110, 111, 112, 113, 114, 115, 116] (by decide +kernel) (by decide +kernel)
theorem gw_wsL_law_wsX00 : GoodIn wsL_law wsX00 := goodIn_r _ [1012, 1013, 1014, 1015, 1016, 1017] (by decide +kernel) (by decide +kernel)
theorem gw_wsL_law_wsX80 : GoodIn wsL_law wsX80 := goodIn_r _ [965, 966, 967, 968, 969, 970, 971, 972, 973, 974, 975] (by decide +kernel) (by decide +kernel)
theorem gw_wsL_law_wsX30 : GoodIn wsL_law wsX30 := goodIn_r _ [1018, 1019, 1020, 1021] (by decide +kernel) (by decide +kernel)
theorem gw_wsL_law_wsX50 : GoodIn wsL_law wsX50 := goodIn_r _ [1022, 1023, 1024, 1025, 1026, 1027] (by decide +kernel) (by decide +kernel)
theorem gw_wsL_law_wsX60 : GoodIn wsL_law wsX60 := goodIn_r _ [1028, 1029, 1030] (by decide +kernel) (by decide +kernel)
theorem gw_wsL_law_wsX20 : GoodIn wsL_law wsX20 := goodIn_r _ [1031, 1032, 1033] (by decide +kernel) (by decide +kernel)
theorem gw_wsL_law_wsX10 : GoodIn wsL_law wsX10 := goodIn_r _ [1034, 1035, 1036] (by decide +kernel) (by decide +kernel)
theorem gw_wsL_law_wsX40 : GoodIn wsL_law wsX40 := goodIn_r _ [1037, 1038, 1039, 1040, 1041, 1042, 1043, 1044, 1045, 1046, 1047, 1048] (by decide +kernel) (by decide +kernel)
theorem gw_wsL_law_wsX70 : GoodIn wsL_law wsX70 := goodIn_r _ [1049, 1050] (by decide +kernel) (by decide +kernel)
theorem ggL_law_X8_init : GoodIn wsL_law wsX8_init := q_gcons ggL_law_X8_init_h (goodIn_app (goodIn_app (goodIn_app (goodIn_app (goodIn_app (goodIn_app (goodIn_app (goodIn_app (goodIn_app (goodIn_app ggL_law_X8_init_wsX8_init_r1 (goodIn_app ggL_law_X8_init_wsX8_init_r2 (goodIn_app ggL_law_X8_init_wsX8_init_r3 (goodIn_app ggL_law_X8_init_wsX8_init_r4 (ggL_law_X8_init_wsX8_init_r5))))) gw_wsL_law_wsX00) gw_wsL_law_wsX80) gw_wsL_law_wsX30) gw_wsL_law_wsX50) gw_wsL_law_wsX60) gw_wsL_law_wsX20) gw_wsL_law_wsX10) gw_wsL_law_wsX40) gw_wsL_law_wsX70)
set_option maxRecDepth 20000 in
theorem gL_law_X8_init : GoodIn wsL_law (wsX8_init) := ggL_law_X8_init
theorem ggL_law_X9_init_h : GoodIn wsL_law [.code yX9_init cX9_init 3 none] := goodIn_r _ [119] (by decide +kernel) (by decide +kernel)
theorem ggL_law_X9_init_wsX9_init_r1 : GoodIn wsL_law wsX9_init_r1 := goodIn_r _ [120, 14, 15, 64, 121, 122, 67, 123, 124, 125, 126, 127, 128, 129, 79, 130, 131, 132, 133, 134, 135, 136, 137, 138] (by decide +kernel) (by decide +kernel)
theorem ggL_law_X9_init_wsX9_init_r2 : GoodIn wsL_law wsX9_init_r2 := goodIn_r _ [139, 140, 141, 142, 143, 144, 145, 146, 147, 148, 149] (by decide +kernel) (by decide +kernel)
theorem gw_wsL_law_wsX90 : GoodIn wsL_law wsX90 := goodIn_r _ [976, 977, 978, 979, 980, 981, 982, 983, 984, 985, 986, 987, 988, 989, 990, 991, 992, 993, 994, 995, 996, 997, 998, 999, 1000, 1001, 1002, 1003, 1004, 1005, 1006, 1007, 1008, 1009, 1010, 1011] (by decide +kernel) (by decide +kernel)
theorem ggL_law_X9_init : GoodIn wsL_law wsX9_init := q_gcons ggL_law_X9_init_h (goodIn_app (goodIn_app ggL_law_X9_init_wsX9_init_r1 (ggL_law_X9_init_wsX9_init_r2)) gw_wsL_law_wsX90)
set_option maxRecDepth 20000 in
theorem gL_law_X9_init : GoodIn wsL_law (wsX9_init) := ggL_law_X9_init
theorem ggL_law_X8_field_h : GoodIn wsL_law [.code yX8_field cX8_field 7 (some .int)] := goodIn_r _ [153] (by decide +kernel) (by decide +kernel)
theorem ggL_law_X8_field_wsX8_field_r1 : GoodIn wsL_law wsX8_field_r1 := goodIn_r _ [19, 28, 154, 155, 156, 18, 157, 62, 63, 158, 159, 2, 160, 161, 162, 163, 164, 23, 165, 166, 167, 168, 22, 169] (by decide +kernel) (by decide +kernel)
theorem ggL_law_X8_field_wsX8_field_r2 : GoodIn wsL_law wsX8_field_r2 := goodIn_r _ [73, 170, 171, 172, 173, 174, 175, 176, 177, 178, 179, 180, 181, 182, 183, 27, 184, 185, 186, 187, 188, 189, 190, 65] (by decide +kernel) (by decide +kernel)
theorem ggL_law_X8_field_wsX8_field_r3 : GoodIn wsL_law wsX8_field_r3 := goodIn_r _ [66] (by decide +kernel) (by decide +kernel)
theorem ggL_law_X8_field : GoodIn wsL_law wsX8_field := q_gcons ggL_law_X8_field_h (goodIn_app (goodIn_app (goodIn_app (goodIn_app (goodIn_app ggL_law_X8_field_wsX8_field_r1 (goodIn_app ggL_law_X8_field_wsX8_field_r2 (ggL_law_X8_field_wsX8_field_r3))) gw_wsL_law_wsX80) gw_wsL_law_wsX00) gw_wsL_law_wsX30) gw_wsL_law_wsX50)
set_option maxRecDepth 20000 in
theorem gL_law_X8_field : GoodIn wsL_law (wsV RL 21 RX8 yX8_field wsX8_field) := goodIn_app (goodIn_of _ (by decide +kernel)) ggL_law_X8_field
set_option maxRecDepth 20000 in
theorem ggL_law_X9_field : GoodIn wsL_law wsX9_field := goodIn_r _ [194, 124, 126, 125, 121, 122, 195, 196, 197, 5, 198, 148, 149, 199, 200, 201, 202, 203, 204, 205, 206, 207, 976, 977, 978, 979, 980, 981, 982, 983, 984, 985, 986, 987, 988, 989, 990, 991, 992, 993, 994, 995, 996, 997, 998, 999, 1000, 1001, 1002, 1003, 1004, 1005, 1006, 1007, 1008, 1009, 1010, 1011] (by decide +kernel) (by decide +kernel)
set_option maxRecDepth 20000 in
theorem gL_law_X9_field : GoodIn wsL_law (wsV RL 25 RX9 yX9_field wsX9_field) := goodIn_app (goodIn_of _ (by decide +kernel)) ggL_law_X9_field
theorem ggL_law_X8_line_h : GoodIn wsL_law [.code yX8_line cX8_line 4 (some .int)] := goodIn_r _ [211] (by decide +kernel) (by decide +kernel)
theorem ggL_law_X8_line_wsX8_line_r1 : GoodIn wsL_law wsX8_line_r1 := goodIn_r _ [19, 212, 213, 28, 154, 155, 156, 18, 157, 62, 63, 161, 162, 163, 2, 164, 23, 165, 166, 167, 168, 22, 169, 73] (by decide +kernel) (by decide +kernel)
theorem ggL_law_X8_line_wsX8_line_r2 : GoodIn wsL_law wsX8_line_r2 := goodIn_r _ [170, 171, 172, 173, 174, 175, 176, 177, 178, 179, 180, 181, 182, 183, 27, 184, 185, 186, 214, 215, 216, 217, 68] (by decide +kernel) (by decide +kernel)
theorem ggL_law_X8_line : GoodIn wsL_law wsX8_line := q_gcons ggL_law_X8_line_h (goodIn_app (goodIn_app (goodIn_app (goodIn_app (goodIn_app ggL_law_X8_line_wsX8_line_r1 (ggL_law_X8_line_wsX8_line_r2)) gw_wsL_law_wsX80) gw_wsL_law_wsX00) gw_wsL_law_wsX30) gw_wsL_law_wsX50)
set_option maxRecDepth 20000 in
theorem gL_law_X8_line : GoodIn wsL_law (wsV RL 26 RX8 yX8_line wsX8_line) := goodIn_app (goodIn_of _ (by decide +kernel)) ggL_law_X8_line
set_option maxRecDepth 20000 in
theorem ggL_law_X9_line : GoodIn wsL_law wsX9_line := goodIn_r _ [221, 149, 124, 126, 125, 123, 202, 203, 204, 5, 205, 206, 207, 976, 977, 978, 979, 980, 981, 982, 983, 984, 985, 986, 987, 988, 989, 990, 991, 992, 993, 994, 995, 996, 997, 998, 999, 1000, 1001, 1002, 1003, 1004, 1005, 1006, 1007, 1008, 1009, 1010, 1011] (by decide +kernel) (by decide +kernel)
set_option maxRecDepth 20000 in
theorem gL_law_X9_line : GoodIn wsL_law (wsV RL 30 RX9 yX9_line wsX9_line) := goodIn_app (goodIn_of _ (by decide +kernel)) ggL_law_X9_line
theorem ggL_law_X8_barrel_h : GoodIn wsL_law [.code yX8_barrel cX8_barrel 6 (some .int)] := goodIn_r _ [225] (by decide +kernel) (by decide +kernel)
theorem ggL_law_X8_barrel_wsX8_barrel_r1 : GoodIn wsL_law wsX8_barrel_r1 := goodIn_r _ [19, 28, 23, 226, 154, 155, 156, 18, 157, 62, 63, 227, 228, 229, 2, 230, 231, 232, 233, 234, 235, 68, 65, 236] (by decide +kernel) (by decide +kernel)
theorem ggL_law_X8_barrel_wsX8_barrel_r2 : GoodIn wsL_law wsX8_barrel_r2 := goodIn_r _ [237, 238, 239, 240, 241, 242, 181, 182, 183, 27, 184, 185, 186, 243, 171, 172, 22, 173, 174, 175, 176, 177, 178, 179] (by decide +kernel) (by decide +kernel)
theorem ggL_law_X8_barrel_wsX8_barrel_r3 : GoodIn wsL_law wsX8_barrel_r3 := goodIn_r _ [244, 245, 246, 247] (by decide +kernel) (by decide +kernel)
theorem ggL_law_X8_barrel : GoodIn wsL_law wsX8_barrel := q_gcons ggL_law_X8_barrel_h (goodIn_app (goodIn_app (goodIn_app (goodIn_app (goodIn_app ggL_law_X8_barrel_wsX8_barrel_r1 (goodIn_app ggL_law_X8_barrel_wsX8_barrel_r2 (ggL_law_X8_barrel_wsX8_barrel_r3))) gw_wsL_law_wsX80) gw_wsL_law_wsX30) gw_wsL_law_wsX00) gw_wsL_law_wsX50)
set_option maxRecDepth 20000 in
theorem gL_law_X8_barrel : GoodIn wsL_law (wsV RL 31 RX8 yX8_barrel wsX8_barrel) := goodIn_app (goodIn_of _ (by decide +kernel)) ggL_law_X8_barrel
theorem ggL_law_X9_barrel_h : GoodIn wsL_law [.code yX9_barrel cX9_barrel 6 (some .int)] := goodIn_r _ [251] (by decide +kernel) (by decide +kernel)
theorem ggL_law_X9_barrel_wsX9_barrel_r1 : GoodIn wsL_law wsX9_barrel_r1 := goodIn_r _ [126, 124, 195, 196, 197, 5, 198, 148, 149, 252, 253, 254, 255, 123, 121, 256, 257, 258, 259, 202, 203, 204, 205, 206] (by decide +kernel) (by decide +kernel)
theorem ggL_law_X9_barrel_wsX9_barrel_r2 : GoodIn wsL_law wsX9_barrel_r2 := goodIn_r _ [207] (by decide +kernel) (by decide +kernel)
theorem ggL_law_X9_barrel : GoodIn wsL_law wsX9_barrel := q_gcons ggL_law_X9_barrel_h (goodIn_app (goodIn_app ggL_law_X9_barrel_wsX9_barrel_r1 (ggL_law_X9_barrel_wsX9_barrel_r2)) gw_wsL_law_wsX90)
set_option maxRecDepth 20000 in
theorem gL_law_X9_barrel : GoodIn wsL_law (wsV RL 35 RX9 yX9_barrel wsX9_barrel) := goodIn_app (goodIn_of _ (by decide +kernel)) ggL_law_X9_barrel
theorem ggL_law_X8_man_h : GoodIn wsL_law [.code yX8_man cX8_man 5 (some .int)] := goodIn_r _ [263] (by decide +kernel) (by decide +kernel)
theorem ggL_law_X8_man_wsX8_man_r1 : GoodIn wsL_law wsX8_man_r1 := goodIn_r _ [19, 23, 28, 231, 154, 155, 156, 18, 157, 62, 63, 264, 265, 266, 267, 268, 233, 234, 235, 68, 65, 243, 171, 172] (by decide +kernel) (by decide +kernel)
theorem ggL_law_X8_man_wsX8_man_r2 : GoodIn wsL_law wsX8_man_r2 := goodIn_r _ [22, 173, 174, 175, 2, 176, 177, 178, 179, 181, 182, 183, 27, 184, 185, 186, 269, 270, 271, 272, 73] (by decide +kernel) (by decide +kernel)
theorem ggL_law_X8_man : GoodIn wsL_law wsX8_man := q_gcons ggL_law_X8_man_h (goodIn_app (goodIn_app (goodIn_app (goodIn_app (goodIn_app ggL_law_X8_man_wsX8_man_r1 (ggL_law_X8_man_wsX8_man_r2)) gw_wsL_law_wsX80) gw_wsL_law_wsX30) gw_wsL_law_wsX00) gw_wsL_law_wsX50)
set_option maxRecDepth 20000 in
theorem gL_law_X8_man : GoodIn wsL_law (wsV RL 36 RX8 yX8_man wsX8_man) := goodIn_app (goodIn_of _ (by decide +kernel)) ggL_law_X8_man
set_option maxRecDepth 20000 in
theorem ggL_law_X9_man : GoodIn wsL_law wsX9_man := goodIn_r _ [276, 124, 126, 195, 196, 197, 5, 198, 148, 149, 252, 253, 254, 255, 123, 121, 202, 203, 204, 205, 206, 207, 976, 977, 978, 979, 980, 981, 982, 983, 984, 985, 986, 987, 988, 989, 990, 991, 992, 993, 994, 995, 996, 997, 998, 999, 1000, 1001, 1002, 1003, 1004, 1005, 1006, 1007, 1008, 1009, 1010, 1011] (by decide +kernel) (by decide +kernel)
set_option maxRecDepth 20000 in
theorem gL_law_X9_man : GoodIn wsL_law (wsV RL 40 RX9 yX9_man wsX9_man) := goodIn_app (goodIn_of _ (by decide +kernel)) ggL_law_X9_man
set_option maxRecDepth 20000 in
theorem ggL_law_X8_want : GoodIn wsL_law wsX8_want := goodIn_r _ [280, 19, 28, 165, 154, 155, 156, 18, 157, 62, 63, 232, 233, 234, 235, 68, 65, 181, 182, 183, 27, 184, 185, 186, 180, 175, 2, 176, 177, 178, 179, 244, 245, 246, 247, 965, 966, 967, 968, 969, 970, 971, 972, 973, 974, 975, 1012, 1013, 1014, 1015, 1016, 1017, 1022, 1023, 1024, 1025, 1026, 1027] (by decide +kernel) (by decide +kernel)
set_option maxRecDepth 20000 in
theorem gL_law_X8_want : GoodIn wsL_law (wsV RL 41 RX8 yX8_want wsX8_want) := goodIn_app (goodIn_of _ (by decide +kernel)) ggL_law_X8_want
set_option maxRecDepth 20000 in
theorem ggL_law_X9_want : GoodIn wsL_law wsX9_want := goodIn_r _ [284, 125, 195, 196, 197, 5, 198, 148, 149, 252, 253, 254, 255, 123, 121, 202, 203, 204, 205, 206, 207, 976, 977, 978, 979, 980, 981, 982, 983, 984, 985, 986, 987, 988, 989, 990, 991, 992, 993, 994, 995, 996, 997, 998, 999, 1000, 1001, 1002, 1003, 1004, 1005, 1006, 1007, 1008, 1009, 1010, 1011] (by decide +kernel) (by decide +kernel)
set_option maxRecDepth 20000 in
theorem gL_law_X9_want : GoodIn wsL_law (wsV RL 44 RX9 yX9_want wsX9_want) := goodIn_app (goodIn_of _ (by decide +kernel)) ggL_law_X9_want
theorem ggL_law_X8_step_h : GoodIn wsL_law [.code yX8_step cX8_step 2 (some .int)] := goodIn_r _ [288] (by decide +kernel) (by decide +kernel)
theorem ggL_law_X8_step_wsX8_step_r1 : GoodIn wsL_law wsX8_step_r1 := goodIn_r _ [24, 23, 19, 289, 290, 291, 22, 292, 73, 174, 293, 294, 295, 296, 297, 298, 299, 270, 271, 272, 159, 2, 160, 300] (by decide +kernel) (by decide +kernel)
theorem ggL_law_X8_step_wsX8_step_r2 : GoodIn wsL_law wsX8_step_r2 := goodIn_r _ [301, 302, 18, 303, 178, 179, 304, 155, 156, 157, 62, 63, 170, 171, 172, 173, 175, 176, 177, 305, 306, 307, 308, 268] (by decide +kernel) (by decide +kernel)
theorem ggL_law_X8_step_wsX8_step_r3 : GoodIn wsL_law wsX8_step_r3 := goodIn_r _ [233, 234, 235, 68, 65, 309, 310, 311, 312, 66, 313, 314, 315, 316, 317, 318, 319, 320, 321, 322, 323, 324, 245, 246] (by decide +kernel) (by decide +kernel)
theorem ggL_law_X8_step_wsX8_step_r4 : GoodIn wsL_law wsX8_step_r4 := goodIn_r _ [247, 325, 326, 327, 328, 28, 329, 330, 331, 27, 332, 185, 186, 333, 334, 335, 336, 78, 337, 80, 338, 81, 339, 82] (by decide +kernel) (by decide +kernel)
theorem ggL_law_X8_step_wsX8_step_r5 : GoodIn wsL_law wsX8_step_r5 := goodIn_r _ [340] (by decide +kernel) (by decide +kernel)
theorem ggL_law_X8_step : GoodIn wsL_law wsX8_step := q_gcons ggL_law_X8_step_h (goodIn_app (goodIn_app (goodIn_app (goodIn_app (goodIn_app ggL_law_X8_step_wsX8_step_r1 (goodIn_app ggL_law_X8_step_wsX8_step_r2 (goodIn_app ggL_law_X8_step_wsX8_step_r3 (goodIn_app ggL_law_X8_step_wsX8_step_r4 (ggL_law_X8_step_wsX8_step_r5))))) gw_wsL_law_wsX80) gw_wsL_law_wsX30) gw_wsL_law_wsX00) gw_wsL_law_wsX50)
set_option maxRecDepth 20000 in
theorem gL_law_X8_step : GoodIn wsL_law (wsV RL 45 RX8 yX8_step wsX8_step) := goodIn_app (goodIn_of _ (by decide +kernel)) ggL_law_X8_step
theorem ggL_law_X9_step_h : GoodIn wsL_law [.code yX9_step cX9_step 4 (some .int)] := goodIn_r _ [344] (by decide +kernel) (by decide +kernel)
theorem ggL_law_X9_step_wsX9_step_r1 : GoodIn wsL_law wsX9_step_r1 := goodIn_r _ [126, 199, 200, 5, 201, 345, 346, 347, 348, 124, 349, 350, 351, 352, 195, 196, 197, 198, 148, 149, 353, 354, 355, 356] (by decide +kernel) (by decide +kernel)
theorem ggL_law_X9_step_wsX9_step_r2 : GoodIn wsL_law wsX9_step_r2 := goodIn_r _ [357, 358, 359, 360, 361, 362, 363, 364, 122, 252, 253, 254, 255, 123, 121, 365, 366, 367, 368, 369, 370, 371, 372, 206] (by decide +kernel) (by decide +kernel)
theorem ggL_law_X9_step_wsX9_step_r3 : GoodIn wsL_law wsX9_step_r3 := goodIn_r _ [207, 373, 374, 375, 376, 127, 128, 377, 129, 378, 130, 379, 380, 381, 382, 383, 384, 385, 386, 387, 388, 389, 390] (by decide +kernel) (by decide +kernel)
theorem ggL_law_X9_step : GoodIn wsL_law wsX9_step := q_gcons ggL_law_X9_step_h (goodIn_app (goodIn_app ggL_law_X9_step_wsX9_step_r1 (goodIn_app ggL_law_X9_step_wsX9_step_r2 (ggL_law_X9_step_wsX9_step_r3))) gw_wsL_law_wsX90)
set_option maxRecDepth 20000 in
theorem gL_law_X9_step : GoodIn wsL_law (wsV RL 49 RX9 yX9_step wsX9_step) := goodIn_app (goodIn_of _ (by decide +kernel)) ggL_law_X9_step
theorem ggL_law_X8_walk_h : GoodIn wsL_law [.code yX8_walk cX8_walk 4 (some .int)] := goodIn_r _ [394] (by decide +kernel) (by decide +kernel)
theorem ggL_law_X8_walk_wsX8_walk_r1 : GoodIn wsL_law wsX8_walk_r1 := goodIn_r _ [19, 23, 154, 155, 156, 18, 157, 62, 63, 269, 270, 271, 22, 272, 73, 395, 396, 397, 2, 398, 32, 24, 231, 399] (by decide +kernel) (by decide +kernel)
theorem ggL_law_X8_walk_wsX8_walk_r2 : GoodIn wsL_law wsX8_walk_r2 := goodIn_r _ [400, 401, 402, 31, 403, 87, 404, 405, 88, 406, 407, 408, 409, 410, 411, 412, 413, 178, 179, 414, 301, 302, 303, 159] (by decide +kernel) (by decide +kernel)
theorem ggL_law_X8_walk_wsX8_walk_r3 : GoodIn wsL_law wsX8_walk_r3 := goodIn_r _ [160, 304, 415, 306, 307, 308, 268, 233, 234, 235, 68, 65, 309, 310, 311, 312, 66, 416, 171, 172, 173, 174, 175, 176] (by decide +kernel) (by decide +kernel)
theorem ggL_law_X8_walk_wsX8_walk_r4 : GoodIn wsL_law wsX8_walk_r4 := goodIn_r _ [177, 417, 418, 419, 420, 421, 289, 290, 291, 292, 293, 294, 325, 326, 327, 328, 28, 329, 330, 331, 27, 332, 185, 186] (by decide +kernel) (by decide +kernel)
theorem ggL_law_X8_walk_wsX8_walk_r5 : GoodIn wsL_law wsX8_walk_r5 := goodIn_r _ [333, 334, 335, 336, 78, 337, 80, 338, 81, 339, 82, 340] (by decide +kernel) (by decide +kernel)
theorem ggL_law_X8_walk : GoodIn wsL_law wsX8_walk := q_gcons ggL_law_X8_walk_h (goodIn_app (goodIn_app (goodIn_app (goodIn_app (goodIn_app (goodIn_app ggL_law_X8_walk_wsX8_walk_r1 (goodIn_app ggL_law_X8_walk_wsX8_walk_r2 (goodIn_app ggL_law_X8_walk_wsX8_walk_r3 (goodIn_app ggL_law_X8_walk_wsX8_walk_r4 (ggL_law_X8_walk_wsX8_walk_r5))))) gw_wsL_law_wsX80) gw_wsL_law_wsX00) gw_wsL_law_wsX30) gw_wsL_law_wsX60) gw_wsL_law_wsX50)
set_option maxRecDepth 20000 in
theorem gL_law_X8_walk : GoodIn wsL_law (wsV RL 50 RX8 yX8_walk wsX8_walk) := goodIn_app (goodIn_of _ (by decide +kernel)) ggL_law_X8_walk
theorem ggL_law_X9_walk_h : GoodIn wsL_law [.code yX9_walk cX9_walk 4 (some .int)] := goodIn_r _ [425] (by decide +kernel) (by decide +kernel)
theorem ggL_law_X9_walk_wsX9_walk_r1 : GoodIn wsL_law wsX9_walk_r1 := goodIn_r _ [126, 134, 377, 195, 196, 197, 5, 198, 148, 149, 426, 427, 428, 429, 349, 350, 351, 352, 353, 354, 355, 356, 124, 357] (by decide +kernel) (by decide +kernel)
theorem ggL_law_X9_walk_wsX9_walk_r2 : GoodIn wsL_law wsX9_walk_r2 := goodIn_r _ [358, 359, 360, 361, 362, 363, 364, 122, 252, 253, 254, 255, 123, 121, 369, 370, 371, 372, 206, 207, 373, 374, 375, 376] (by decide +kernel) (by decide +kernel)
theorem ggL_law_X9_walk_wsX9_walk_r3 : GoodIn wsL_law wsX9_walk_r3 := goodIn_r _ [127, 128, 129, 378, 130, 379, 380, 381, 382, 387, 388, 389, 390] (by decide +kernel) (by decide +kernel)
theorem ggL_law_X9_walk : GoodIn wsL_law wsX9_walk := q_gcons ggL_law_X9_walk_h (goodIn_app (goodIn_app ggL_law_X9_walk_wsX9_walk_r1 (goodIn_app ggL_law_X9_walk_wsX9_walk_r2 (ggL_law_X9_walk_wsX9_walk_r3))) gw_wsL_law_wsX90)
set_option maxRecDepth 20000 in
theorem gL_law_X9_walk : GoodIn wsL_law (wsV RL 53 RX9 yX9_walk wsX9_walk) := goodIn_app (goodIn_of _ (by decide +kernel)) ggL_law_X9_walk
theorem ggL_law_X8_push_h : GoodIn wsL_law [.code yX8_push cX8_push 4 (some .int)] := goodIn_r _ [433] (by decide +kernel) (by decide +kernel)
theorem ggL_law_X8_push_wsX8_push_r1 : GoodIn wsL_law wsX8_push_r1 := goodIn_r _ [434, 435, 436, 2, 437, 19, 23, 24, 154, 155, 156, 18, 157, 62, 63, 269, 270, 271, 22, 272, 73, 158, 159, 160] (by decide +kernel) (by decide +kernel)
theorem ggL_law_X8_push_wsX8_push_r2 : GoodIn wsL_law wsX8_push_r2 := goodIn_r _ [243, 171, 172, 173, 174, 175, 176, 177, 178, 179, 438, 439, 440, 441, 301, 302, 303, 304, 395, 396, 397, 398, 32, 231] (by decide +kernel) (by decide +kernel)
theorem ggL_law_X8_push_wsX8_push_r3 : GoodIn wsL_law wsX8_push_r3 := goodIn_r _ [399, 400, 401, 402, 31, 403, 87, 404, 405, 88, 406, 407, 408, 409, 410, 411, 412, 413, 414, 415, 306, 307, 308, 268] (by decide +kernel) (by decide +kernel)
theorem ggL_law_X8_push_wsX8_push_r4 : GoodIn wsL_law wsX8_push_r4 := goodIn_r _ [233, 234, 235, 68, 65, 309, 310, 311, 312, 66, 416, 417, 418, 419, 420, 421, 289, 290, 291, 292, 293, 294, 295, 296] (by decide +kernel) (by decide +kernel)
theorem ggL_law_X8_push_wsX8_push_r5 : GoodIn wsL_law wsX8_push_r5 := goodIn_r _ [297, 298, 299, 300, 170, 305, 313, 314, 315, 316, 317, 318, 319, 320, 321, 322, 323, 324, 245, 246, 247, 325, 326, 327] (by decide +kernel) (by decide +kernel)
theorem ggL_law_X8_push_wsX8_push_r6 : GoodIn wsL_law wsX8_push_r6 := goodIn_r _ [328, 28, 329, 330, 331, 27, 332, 185, 186, 333, 334, 335, 336, 78, 337, 80, 338, 81, 339, 82, 340] (by decide +kernel) (by decide +kernel)
theorem ggL_law_X8_push : GoodIn wsL_law wsX8_push := q_gcons ggL_law_X8_push_h (goodIn_app (goodIn_app (goodIn_app (goodIn_app (goodIn_app (goodIn_app ggL_law_X8_push_wsX8_push_r1 (goodIn_app ggL_law_X8_push_wsX8_push_r2 (goodIn_app ggL_law_X8_push_wsX8_push_r3 (goodIn_app ggL_law_X8_push_wsX8_push_r4 (goodIn_app ggL_law_X8_push_wsX8_push_r5 (ggL_law_X8_push_wsX8_push_r6)))))) gw_wsL_law_wsX80) gw_wsL_law_wsX00) gw_wsL_law_wsX30) gw_wsL_law_wsX60) gw_wsL_law_wsX50)
set_option maxRecDepth 20000 in
theorem gL_law_X8_push : GoodIn wsL_law (wsV RL 54 RX8 yX8_push wsX8_push) := goodIn_app (goodIn_of _ (by decide +kernel)) ggL_law_X8_push
theorem ggL_law_X9_push_h : GoodIn wsL_law [.code yX9_push cX9_push 7 (some .int)] := goodIn_r _ [445] (by decide +kernel) (by decide +kernel)
theorem ggL_law_X9_push_wsX9_push_r1 : GoodIn wsL_law wsX9_push_r1 := goodIn_r _ [377, 134, 126, 446, 447, 448, 5, 449, 124, 195, 196, 197, 198, 148, 149, 199, 200, 201, 349, 350, 351, 352, 426, 427] (by decide +kernel) (by decide +kernel)
theorem ggL_law_X9_push_wsX9_push_r2 : GoodIn wsL_law wsX9_push_r2 := goodIn_r _ [428, 429, 353, 354, 355, 356, 357, 358, 359, 360, 361, 362, 363, 364, 122, 252, 253, 254, 255, 123, 121, 345, 346, 347] (by decide +kernel) (by decide +kernel)
theorem ggL_law_X9_push_wsX9_push_r3 : GoodIn wsL_law wsX9_push_r3 := goodIn_r _ [348, 365, 366, 367, 368, 369, 370, 371, 372, 206, 207, 373, 374, 375, 376, 127, 128, 129, 378, 130, 379, 380, 381, 382] (by decide +kernel) (by decide +kernel)
theorem ggL_law_X9_push_wsX9_push_r4 : GoodIn wsL_law wsX9_push_r4 := goodIn_r _ [383, 384, 385, 386, 387, 388, 389, 390] (by decide +kernel) (by decide +kernel)
theorem ggL_law_X9_push : GoodIn wsL_law wsX9_push := q_gcons ggL_law_X9_push_h (goodIn_app (goodIn_app ggL_law_X9_push_wsX9_push_r1 (goodIn_app ggL_law_X9_push_wsX9_push_r2 (goodIn_app ggL_law_X9_push_wsX9_push_r3 (ggL_law_X9_push_wsX9_push_r4)))) gw_wsL_law_wsX90)
set_option maxRecDepth 20000 in
theorem gL_law_X9_push : GoodIn wsL_law (wsV RL 58 RX9 yX9_push wsX9_push) := goodIn_app (goodIn_of _ (by decide +kernel)) ggL_law_X9_push
theorem ggL_law_X8_can_h : GoodIn wsL_law [.code yX8_can cX8_can 4 (some .int)] := goodIn_r _ [453] (by decide +kernel) (by decide +kernel)
theorem ggL_law_X8_can_wsX8_can_r1 : GoodIn wsL_law wsX8_can_r1 := goodIn_r _ [434, 435, 436, 2, 437, 19, 23, 24, 154, 155, 156, 18, 157, 62, 63, 269, 270, 271, 22, 272, 73, 158, 159, 160] (by decide +kernel) (by decide +kernel)
theorem ggL_law_X8_can_wsX8_can_r2 : GoodIn wsL_law wsX8_can_r2 := goodIn_r _ [243, 171, 172, 173, 174, 175, 176, 177, 178, 179, 438, 439, 440, 441, 301, 302, 303, 304, 395, 396, 397, 398, 32, 231] (by decide +kernel) (by decide +kernel)
theorem ggL_law_X8_can_wsX8_can_r3 : GoodIn wsL_law wsX8_can_r3 := goodIn_r _ [399, 400, 401, 402, 31, 403, 87, 404, 405, 88, 406, 407, 408, 409, 410, 411, 412, 413, 414, 415, 306, 307, 308, 268] (by decide +kernel) (by decide +kernel)
theorem ggL_law_X8_can_wsX8_can_r4 : GoodIn wsL_law wsX8_can_r4 := goodIn_r _ [233, 234, 235, 68, 65, 309, 310, 311, 312, 66, 416, 417, 418, 419, 420, 421, 289, 290, 291, 292, 293, 294, 295, 296] (by decide +kernel) (by decide +kernel)
theorem ggL_law_X8_can_wsX8_can_r5 : GoodIn wsL_law wsX8_can_r5 := goodIn_r _ [297, 298, 299, 300, 170, 305, 313, 314, 315, 316, 317, 318, 319, 320, 321, 322, 323, 324, 245, 246, 247] (by decide +kernel) (by decide +kernel)
theorem ggL_law_X8_can : GoodIn wsL_law wsX8_can := q_gcons ggL_law_X8_can_h (goodIn_app (goodIn_app (goodIn_app (goodIn_app (goodIn_app ggL_law_X8_can_wsX8_can_r1 (goodIn_app ggL_law_X8_can_wsX8_can_r2 (goodIn_app ggL_law_X8_can_wsX8_can_r3 (goodIn_app ggL_law_X8_can_wsX8_can_r4 (ggL_law_X8_can_wsX8_can_r5))))) gw_wsL_law_wsX80) gw_wsL_law_wsX00) gw_wsL_law_wsX30) gw_wsL_law_wsX60)
set_option maxRecDepth 20000 in
theorem gL_law_X8_can : GoodIn wsL_law (wsV RL 59 RX8 yX8_can wsX8_can) := goodIn_app (goodIn_of _ (by decide +kernel)) ggL_law_X8_can
theorem ggL_law_X9_can_h : GoodIn wsL_law [.code yX9_can cX9_can 7 (some .int)] := goodIn_r _ [449] (by decide +kernel) (by decide +kernel)
theorem ggL_law_X9_can_wsX9_can_r1 : GoodIn wsL_law wsX9_can_r1 := goodIn_r _ [126, 124, 134, 195, 196, 197, 5, 198, 148, 149, 199, 200, 201, 349, 350, 351, 352, 426, 427, 428, 429, 353, 354, 355] (by decide +kernel) (by decide +kernel)
theorem ggL_law_X9_can_wsX9_can_r2 : GoodIn wsL_law wsX9_can_r2 := goodIn_r _ [356, 357, 358, 359, 360, 361, 362, 363, 364, 122, 252, 253, 254, 255, 123, 121, 345, 346, 347, 348, 365, 366, 367, 368] (by decide +kernel) (by decide +kernel)
theorem ggL_law_X9_can : GoodIn wsL_law wsX9_can := q_gcons ggL_law_X9_can_h (goodIn_app (goodIn_app ggL_law_X9_can_wsX9_can_r1 (ggL_law_X9_can_wsX9_can_r2)) gw_wsL_law_wsX90)
set_option maxRecDepth 20000 in
theorem gL_law_X9_can : GoodIn wsL_law (wsV RL 62 RX9 yX9_can wsX9_can) := goodIn_app (goodIn_of _ (by decide +kernel)) ggL_law_X9_can
set_option maxRecDepth 20000 in
theorem ggL_law_X8_undo : GoodIn wsL_law wsX8_undo := goodIn_r _ [458, 28, 23, 459, 460, 461, 27, 462, 185, 463, 464, 465, 466, 78, 337, 80, 338, 81, 339, 82, 340, 965, 966, 967, 968, 969, 970, 971, 972, 973, 974, 975, 1022, 1023, 1024, 1025, 1026, 1027, 1018, 1019, 1020, 1021] (by decide +kernel) (by decide +kernel)
set_option maxRecDepth 20000 in
theorem gL_law_X8_undo : GoodIn wsL_law (wsV RL 63 RX8 yX8_undo wsX8_undo) := goodIn_app (goodIn_of _ (by decide +kernel)) ggL_law_X8_undo
set_option maxRecDepth 20000 in
theorem ggL_law_X9_undo : GoodIn wsL_law wsX9_undo := goodIn_r _ [470, 206, 207, 471, 472, 473, 5, 474, 127, 126, 128, 377, 129, 378, 124, 130, 976, 977, 978, 979, 980, 981, 982, 983, 984, 985, 986, 987, 988, 989, 990, 991, 992, 993, 994, 995, 996, 997, 998, 999, 1000, 1001, 1002, 1003, 1004, 1005, 1006, 1007, 1008, 1009, 1010, 1011] (by decide +kernel) (by decide +kernel)
set_option maxRecDepth 20000 in
theorem gL_law_X9_undo : GoodIn wsL_law (wsV RL 67 RX9 yX9_undo wsX9_undo) := goodIn_app (goodIn_of _ (by decide +kernel)) ggL_law_X9_undo
set_option maxRecDepth 20000 in
theorem ggL_law_X8_redo : GoodIn wsL_law wsX8_redo := goodIn_r _ [478, 28, 23, 479, 480, 481, 27, 482, 185, 186, 463, 464, 465, 466, 78, 337, 80, 338, 81, 339, 82, 340, 965, 966, 967, 968, 969, 970, 971, 972, 973, 974, 975, 1022, 1023, 1024, 1025, 1026, 1027, 1018, 1019, 1020, 1021] (by decide +kernel) (by decide +kernel)
set_option maxRecDepth 20000 in
theorem gL_law_X8_redo : GoodIn wsL_law (wsV RL 68 RX8 yX8_redo wsX8_redo) := goodIn_app (goodIn_of _ (by decide +kernel)) ggL_law_X8_redo
set_option maxRecDepth 20000 in
theorem ggL_law_X9_redo : GoodIn wsL_law wsX9_redo := goodIn_r _ [486, 207, 206, 471, 472, 473, 5, 474, 127, 126, 128, 377, 129, 378, 124, 130, 976, 977, 978, 979, 980, 981, 982, 983, 984, 985, 986, 987, 988, 989, 990, 991, 992, 993, 994, 995, 996, 997, 998, 999, 1000, 1001, 1002, 1003, 1004, 1005, 1006, 1007, 1008, 1009, 1010, 1011] (by decide +kernel) (by decide +kernel)
set_option maxRecDepth 20000 in
theorem gL_law_X9_redo : GoodIn wsL_law (wsV RL 71 RX9 yX9_redo wsX9_redo) := goodIn_app (goodIn_of _ (by decide +kernel)) ggL_law_X9_redo
set_option maxRecDepth 20000 in
theorem ggL_law_X8_kind : GoodIn wsL_law wsX8_kind := goodIn_r _ [490, 19, 154, 155, 156, 18, 157, 62, 63, 232, 233, 234, 235, 68, 65, 965, 966, 967, 968, 969, 970, 971, 972, 973, 974, 975, 1012, 1013, 1014, 1015, 1016, 1017] (by decide +kernel) (by decide +kernel)
set_option maxRecDepth 20000 in
theorem gL_law_X8_kind : GoodIn wsL_law (wsV RL 72 RX8 yX8_kind wsX8_kind) := goodIn_app (goodIn_of _ (by decide +kernel)) ggL_law_X8_kind
set_option maxRecDepth 20000 in
theorem ggL_law_X9_kind : GoodIn wsL_law wsX9_kind := goodIn_r _ [494, 195, 196, 197, 5, 198, 148, 149, 252, 253, 254, 255, 123, 121, 976, 977, 978, 979, 980, 981, 982, 983, 984, 985, 986, 987, 988, 989, 990, 991, 992, 993, 994, 995, 996, 997, 998, 999, 1000, 1001, 1002, 1003, 1004, 1005, 1006, 1007, 1008, 1009, 1010, 1011] (by decide +kernel) (by decide +kernel)
set_option maxRecDepth 20000 in
theorem gL_law_X9_kind : GoodIn wsL_law (wsV RL 75 RX9 yX9_kind wsX9_kind) := goodIn_app (goodIn_of _ (by decide +kernel)) ggL_law_X9_kind
set_option maxRecDepth 20000 in
theorem ggL_law_X8_on : GoodIn wsL_law wsX8_on := goodIn_r _ [498, 19, 23, 231, 165, 154, 155, 156, 18, 157, 62, 63, 243, 171, 172, 22, 173, 174, 175, 2, 176, 177, 178, 179, 180, 965, 966, 967, 968, 969, 970, 971, 972, 973, 974, 975, 1018, 1019, 1020, 1021, 1012, 1013, 1014, 1015, 1016, 1017] (by decide +kernel) (by decide +kernel)
set_option maxRecDepth 20000 in
theorem gL_law_X8_on : GoodIn wsL_law (wsV RL 76 RX8 yX8_on wsX8_on) := goodIn_app (goodIn_of _ (by decide +kernel)) ggL_law_X8_on
set_option maxRecDepth 20000 in
theorem ggL_law_X9_on : GoodIn wsL_law wsX9_on := goodIn_r _ [502, 124, 126, 125, 195, 196, 197, 5, 198, 148, 149, 976, 977, 978, 979, 980, 981, 982, 983, 984, 985, 986, 987, 988, 989, 990, 991, 992, 993, 994, 995, 996, 997, 998, 999, 1000, 1001, 1002, 1003, 1004, 1005, 1006, 1007, 1008, 1009, 1010, 1011] (by decide +kernel) (by decide +kernel)
set_option maxRecDepth 20000 in
theorem gL_law_X9_on : GoodIn wsL_law (wsV RL 79 RX9 yX9_on wsX9_on) := goodIn_app (goodIn_of _ (by decide +kernel)) ggL_law_X9_on
theorem ggL_law_X8_far_h : GoodIn wsL_law [.code yX8_far cX8_far 4 (some .int)] := goodIn_r _ [506] (by decide +kernel) (by decide +kernel)
theorem ggL_law_X8_far_wsX8_far_r1 : GoodIn wsL_law wsX8_far_r1 := goodIn_r _ [19, 23, 32, 154, 155, 156, 18, 157, 62, 63, 269, 270, 271, 22, 272, 73, 400, 401, 402, 31, 403, 87, 404, 405] (by decide +kernel) (by decide +kernel)
theorem ggL_law_X8_far_wsX8_far_r2 : GoodIn wsL_law wsX8_far_r2 := goodIn_r _ [88, 406, 407, 408, 409, 410, 411, 412, 413, 178, 2, 179, 414, 301, 302, 303, 159, 160, 304, 415, 306, 307, 308, 268] (by decide +kernel) (by decide +kernel)
theorem ggL_law_X8_far_wsX8_far_r3 : GoodIn wsL_law wsX8_far_r3 := goodIn_r _ [233, 234, 235, 68, 65, 309, 310, 311, 312, 66, 416, 171, 172, 173, 174, 175, 176, 177, 417, 418, 419, 420, 421] (by decide +kernel) (by decide +kernel)
theorem ggL_law_X8_far : GoodIn wsL_law wsX8_far := q_gcons ggL_law_X8_far_h (goodIn_app (goodIn_app (goodIn_app (goodIn_app (goodIn_app ggL_law_X8_far_wsX8_far_r1 (goodIn_app ggL_law_X8_far_wsX8_far_r2 (ggL_law_X8_far_wsX8_far_r3))) gw_wsL_law_wsX80) gw_wsL_law_wsX00) gw_wsL_law_wsX30) gw_wsL_law_wsX60)
set_option maxRecDepth 20000 in
theorem gL_law_X8_far : GoodIn wsL_law (wsV RL 80 RX8 yX8_far wsX8_far) := goodIn_app (goodIn_of _ (by decide +kernel)) ggL_law_X8_far
theorem ggL_law_X9_far_h : GoodIn wsL_law [.code yX9_far cX9_far 3 (some .int)] := goodIn_r _ [510] (by decide +kernel) (by decide +kernel)
theorem ggL_law_X9_far_wsX9_far_r1 : GoodIn wsL_law wsX9_far_r1 := goodIn_r _ [126, 134, 195, 196, 197, 5, 198, 148, 149, 426, 427, 428, 429, 349, 350, 351, 352, 353, 354, 355, 356, 124, 357, 358] (by decide +kernel) (by decide +kernel)
theorem ggL_law_X9_far_wsX9_far_r2 : GoodIn wsL_law wsX9_far_r2 := goodIn_r _ [359, 360, 361, 362, 363, 364, 122, 252, 253, 254, 255, 123, 121] (by decide +kernel) (by decide +kernel)
theorem ggL_law_X9_far : GoodIn wsL_law wsX9_far := q_gcons ggL_law_X9_far_h (goodIn_app (goodIn_app ggL_law_X9_far_wsX9_far_r1 (ggL_law_X9_far_wsX9_far_r2)) gw_wsL_law_wsX90)
set_option maxRecDepth 20000 in
theorem gL_law_X9_far : GoodIn wsL_law (wsV RL 83 RX9 yX9_far wsX9_far) := goodIn_app (goodIn_of _ (by decide +kernel)) ggL_law_X9_far
set_option maxRecDepth 20000 in
theorem ggL_law_X8_isDone : GoodIn wsL_law wsX8_isDone := goodIn_r _ [514, 23, 515, 516, 517, 2, 518, 19, 165, 226, 247, 965, 966, 967, 968, 969, 970, 971, 972, 973, 974, 975, 1012, 1013, 1014, 1015, 1016, 1017, 1018, 1019, 1020, 1021] (by decide +kernel) (by decide +kernel)
set_option maxRecDepth 20000 in
theorem gL_law_X8_isDone : GoodIn wsL_law (wsV RL 84 RX8 yX8_isDone wsX8_isDone) := goodIn_app (goodIn_of _ (by decide +kernel)) ggL_law_X8_isDone
set_option maxRecDepth 20000 in
theorem ggL_law_X9_isDone : GoodIn wsL_law wsX9_isDone := goodIn_r _ [522, 125, 124, 976, 977, 978, 979, 980, 981, 982, 983, 984, 985, 986, 987, 988, 989, 990, 991, 992, 993, 994, 995, 996, 997, 998, 999, 1000, 1001, 1002, 1003, 1004, 1005, 1006, 1007, 1008, 1009, 1010, 1011] (by decide +kernel) (by decide +kernel)
set_option maxRecDepth 20000 in
theorem gL_law_X9_isDone : GoodIn wsL_law (wsV RL 88 RX9 yX9_isDone wsX9_isDone) := goodIn_app (goodIn_of _ (by decide +kernel)) ggL_law_X9_isDone
set_option maxRecDepth 20000 in
theorem ggL_law_X8_isReady : GoodIn wsL_law wsX8_isReady := goodIn_r _ [526, 23, 226, 19, 165, 236, 237, 238, 239, 240, 241, 242, 269, 270, 271, 22, 272, 73, 965, 966, 967, 968, 969, 970, 971, 972, 973, 974, 975, 1018, 1019, 1020, 1021, 1012, 1013, 1014, 1015, 1016, 1017] (by decide +kernel) (by decide +kernel)
set_option maxRecDepth 20000 in
theorem gL_law_X8_isReady : GoodIn wsL_law (wsV RL 89 RX8 yX8_isReady wsX8_isReady) := goodIn_app (goodIn_of _ (by decide +kernel)) ggL_law_X8_isReady
set_option maxRecDepth 20000 in
theorem ggL_law_X9_isReady : GoodIn wsL_law wsX9_isReady := goodIn_r _ [530, 126, 124, 125, 256, 257, 258, 5, 259, 976, 977, 978, 979, 980, 981, 982, 983, 984, 985, 986, 987, 988, 989, 990, 991, 992, 993, 994, 995, 996, 997, 998, 999, 1000, 1001, 1002, 1003, 1004, 1005, 1006, 1007, 1008, 1009, 1010, 1011] (by decide +kernel) (by decide +kernel)
set_option maxRecDepth 20000 in
theorem gL_law_X9_isReady : GoodIn wsL_law (wsV RL 92 RX9 yX9_isReady wsX9_isReady) := goodIn_app (goodIn_of _ (by decide +kernel)) ggL_law_X9_isReady
theorem ggL_law_X8_dead_h : GoodIn wsL_law [.code yX8_dead cX8_dead 4 (some .int)] := goodIn_r _ [534] (by decide +kernel) (by decide +kernel)
theorem ggL_law_X8_dead_wsX8_dead_r1 : GoodIn wsL_law wsX8_dead_r1 := goodIn_r _ [19, 36, 154, 155, 156, 18, 157, 62, 63, 535, 536, 537, 35, 538, 539, 93, 540, 233, 234, 235, 68, 65, 541, 542] (by decide +kernel) (by decide +kernel)
theorem ggL_law_X8_dead_wsX8_dead_r2 : GoodIn wsL_law wsX8_dead_r2 := goodIn_r _ [543, 544, 545, 94, 546, 407, 408, 409, 547, 548, 549, 550, 178, 2, 179, 551, 552, 553, 554, 439, 440, 555, 301, 302] (by decide +kernel) (by decide +kernel)
theorem ggL_law_X8_dead_wsX8_dead_r3 : GoodIn wsL_law wsX8_dead_r3 := goodIn_r _ [303, 159, 160, 304, 556, 265, 266, 267, 268, 557, 306, 307, 308, 309, 310, 311, 312, 66, 558, 322, 323, 324, 559, 560] (by decide +kernel) (by decide +kernel)
theorem ggL_law_X8_dead_wsX8_dead_r4 : GoodIn wsL_law wsX8_dead_r4 := goodIn_r _ [561, 562, 563, 318, 319, 320, 175, 176, 177] (by decide +kernel) (by decide +kernel)
theorem ggL_law_X8_dead : GoodIn wsL_law wsX8_dead := q_gcons ggL_law_X8_dead_h (goodIn_app (goodIn_app (goodIn_app (goodIn_app ggL_law_X8_dead_wsX8_dead_r1 (goodIn_app ggL_law_X8_dead_wsX8_dead_r2 (goodIn_app ggL_law_X8_dead_wsX8_dead_r3 (ggL_law_X8_dead_wsX8_dead_r4)))) gw_wsL_law_wsX80) gw_wsL_law_wsX00) gw_wsL_law_wsX20)
set_option maxRecDepth 20000 in
theorem gL_law_X8_dead : GoodIn wsL_law (wsV RL 93 RX8 yX8_dead wsX8_dead) := goodIn_app (goodIn_of _ (by decide +kernel)) ggL_law_X8_dead
theorem ggL_law_X9_dead_h : GoodIn wsL_law [.code yX9_dead cX9_dead 3 (some .int)] := goodIn_r _ [567] (by decide +kernel) (by decide +kernel)
theorem ggL_law_X9_dead_wsX9_dead_r1 : GoodIn wsL_law wsX9_dead_r1 := goodIn_r _ [195, 196, 197, 5, 198, 148, 149, 568, 569, 570, 571, 125, 135, 252, 253, 254, 255, 123, 121, 572, 573, 574, 575, 349] (by decide +kernel) (by decide +kernel)
theorem ggL_law_X9_dead_wsX9_dead_r2 : GoodIn wsL_law wsX9_dead_r2 := goodIn_r _ [350, 351, 352, 357, 358, 359, 360, 361, 362, 363, 364, 122] (by decide +kernel) (by decide +kernel)
theorem ggL_law_X9_dead : GoodIn wsL_law wsX9_dead := q_gcons ggL_law_X9_dead_h (goodIn_app (goodIn_app ggL_law_X9_dead_wsX9_dead_r1 (ggL_law_X9_dead_wsX9_dead_r2)) gw_wsL_law_wsX90)
set_option maxRecDepth 20000 in
theorem gL_law_X9_dead : GoodIn wsL_law (wsV RL 96 RX9 yX9_dead wsX9_dead) := goodIn_app (goodIn_of _ (by decide +kernel)) ggL_law_X9_dead
theorem ggL_law_X8_held_h : GoodIn wsL_law [.code yX8_held cX8_held 4 (some .int)] := goodIn_r _ [579] (by decide +kernel) (by decide +kernel)
theorem ggL_law_X8_held_wsX8_held_r1 : GoodIn wsL_law wsX8_held_r1 := goodIn_r _ [19, 154, 155, 156, 18, 157, 62, 63, 580, 581, 582, 2, 583, 23, 226, 180, 175, 176, 177, 178, 179, 584, 585, 586] (by decide +kernel) (by decide +kernel)
theorem ggL_law_X8_held_wsX8_held_r2 : GoodIn wsL_law wsX8_held_r2 := goodIn_r _ [587, 232, 233, 234, 235, 68, 65, 588, 589, 590, 591, 441, 301, 302, 303, 159, 160, 304, 244, 245, 246, 247] (by decide +kernel) (by decide +kernel)
theorem ggL_law_X8_held : GoodIn wsL_law wsX8_held := q_gcons ggL_law_X8_held_h (goodIn_app (goodIn_app (goodIn_app (goodIn_app ggL_law_X8_held_wsX8_held_r1 (ggL_law_X8_held_wsX8_held_r2)) gw_wsL_law_wsX80) gw_wsL_law_wsX00) gw_wsL_law_wsX30)
set_option maxRecDepth 20000 in
theorem gL_law_X8_held : GoodIn wsL_law (wsV RL 97 RX8 yX8_held wsX8_held) := goodIn_app (goodIn_of _ (by decide +kernel)) ggL_law_X8_held
theorem ggL_law_X9_held_h : GoodIn wsL_law [.code yX9_held cX9_held 3 (some .int)] := goodIn_r _ [595] (by decide +kernel) (by decide +kernel)
theorem ggL_law_X9_held_wsX9_held_r1 : GoodIn wsL_law wsX9_held_r1 := goodIn_r _ [136, 195, 196, 197, 5, 198, 148, 149, 596, 597, 598, 599, 124, 252, 253, 254, 255, 123, 121, 349, 350, 351, 352, 600] (by decide +kernel) (by decide +kernel)
theorem ggL_law_X9_held_wsX9_held_r2 : GoodIn wsL_law wsX9_held_r2 := goodIn_r _ [601, 602, 603] (by decide +kernel) (by decide +kernel)
theorem ggL_law_X9_held : GoodIn wsL_law wsX9_held := q_gcons ggL_law_X9_held_h (goodIn_app (goodIn_app ggL_law_X9_held_wsX9_held_r1 (ggL_law_X9_held_wsX9_held_r2)) gw_wsL_law_wsX90)
set_option maxRecDepth 20000 in
theorem gL_law_X9_held : GoodIn wsL_law (wsV RL 100 RX9 yX9_held wsX9_held) := goodIn_app (goodIn_of _ (by decide +kernel)) ggL_law_X9_held
theorem ggL_law_X8_spoilt_h : GoodIn wsL_law [.code yX8_spoilt cX8_spoilt 1 (some .int)] := goodIn_r _ [607] (by decide +kernel) (by decide +kernel)
theorem ggL_law_X8_spoilt_wsX8_spoilt_r1 : GoodIn wsL_law wsX8_spoilt_r1 := goodIn_r _ [50, 19, 165, 247, 608, 524, 525, 2, 526, 23, 226, 236, 237, 238, 239, 240, 241, 242, 269, 270, 271, 22, 272, 73] (by decide +kernel) (by decide +kernel)
theorem ggL_law_X8_spoilt_wsX8_spoilt_r2 : GoodIn wsL_law wsX8_spoilt_r2 := goodIn_r _ [609, 610, 611, 612, 36, 243, 171, 172, 173, 174, 175, 176, 177, 178, 179, 535, 536, 537, 35, 538, 539, 93, 540, 233] (by decide +kernel) (by decide +kernel)
theorem ggL_law_X8_spoilt_wsX8_spoilt_r3 : GoodIn wsL_law wsX8_spoilt_r3 := goodIn_r _ [234, 18, 235, 68, 65, 541, 542, 543, 544, 545, 94, 546, 407, 408, 409, 547, 548, 549, 550, 551, 552, 553, 554, 439] (by decide +kernel) (by decide +kernel)
theorem ggL_law_X8_spoilt_wsX8_spoilt_r4 : GoodIn wsL_law wsX8_spoilt_r4 := goodIn_r _ [440, 555, 301, 302, 303, 159, 160, 304, 155, 156, 157, 62, 63, 556, 265, 266, 267, 268, 557, 306, 307, 308, 309, 310] (by decide +kernel) (by decide +kernel)
theorem ggL_law_X8_spoilt_wsX8_spoilt_r5 : GoodIn wsL_law wsX8_spoilt_r5 := goodIn_r _ [311, 312, 66, 558, 322, 323, 324, 559, 560, 561, 562, 563, 318, 319, 320, 580, 581, 582, 583, 180, 584, 585, 586, 587] (by decide +kernel) (by decide +kernel)
theorem ggL_law_X8_spoilt_wsX8_spoilt_r6 : GoodIn wsL_law wsX8_spoilt_r6 := goodIn_r _ [232, 588, 589, 590, 591, 441, 244, 245, 246, 613, 614, 615] (by decide +kernel) (by decide +kernel)
theorem ggL_law_X8_spoilt : GoodIn wsL_law wsX8_spoilt := q_gcons ggL_law_X8_spoilt_h (goodIn_app (goodIn_app (goodIn_app (goodIn_app (goodIn_app ggL_law_X8_spoilt_wsX8_spoilt_r1 (goodIn_app ggL_law_X8_spoilt_wsX8_spoilt_r2 (goodIn_app ggL_law_X8_spoilt_wsX8_spoilt_r3 (goodIn_app ggL_law_X8_spoilt_wsX8_spoilt_r4 (goodIn_app ggL_law_X8_spoilt_wsX8_spoilt_r5 (ggL_law_X8_spoilt_wsX8_spoilt_r6)))))) gw_wsL_law_wsX80) gw_wsL_law_wsX00) gw_wsL_law_wsX30) gw_wsL_law_wsX20)
set_option maxRecDepth 20000 in
theorem gL_law_X8_spoilt : GoodIn wsL_law (wsV RL 101 RX8 yX8_spoilt wsX8_spoilt) := goodIn_app (goodIn_of _ (by decide +kernel)) ggL_law_X8_spoilt
theorem ggL_law_X9_spoilt_h : GoodIn wsL_law [.code yX9_spoilt cX9_spoilt 2 (some .int)] := goodIn_r _ [619] (by decide +kernel) (by decide +kernel)
theorem ggL_law_X9_spoilt_wsX9_spoilt_r1 : GoodIn wsL_law wsX9_spoilt_r1 := goodIn_r _ [133, 124, 136, 125, 620, 528, 529, 5, 530, 126, 256, 257, 258, 259, 568, 569, 570, 571, 135, 252, 253, 254, 255, 123] (by decide +kernel) (by decide +kernel)
theorem ggL_law_X9_spoilt_wsX9_spoilt_r2 : GoodIn wsL_law wsX9_spoilt_r2 := goodIn_r _ [121, 572, 573, 574, 575, 349, 350, 351, 352, 195, 196, 197, 198, 148, 149, 357, 358, 359, 360, 361, 362, 363, 364, 122] (by decide +kernel) (by decide +kernel)
theorem ggL_law_X9_spoilt_wsX9_spoilt_r3 : GoodIn wsL_law wsX9_spoilt_r3 := goodIn_r _ [596, 597, 598, 599, 600, 601, 602, 603] (by decide +kernel) (by decide +kernel)
theorem ggL_law_X9_spoilt : GoodIn wsL_law wsX9_spoilt := q_gcons ggL_law_X9_spoilt_h (goodIn_app (goodIn_app ggL_law_X9_spoilt_wsX9_spoilt_r1 (goodIn_app ggL_law_X9_spoilt_wsX9_spoilt_r2 (ggL_law_X9_spoilt_wsX9_spoilt_r3))) gw_wsL_law_wsX90)
set_option maxRecDepth 20000 in
theorem gL_law_X9_spoilt : GoodIn wsL_law (wsV RL 104 RX9 yX9_spoilt wsX9_spoilt) := goodIn_app (goodIn_of _ (by decide +kernel)) ggL_law_X9_spoilt
set_option maxRecDepth 20000 in
theorem ggL_law_X8_why : GoodIn wsL_law wsX8_why := goodIn_r _ [624, 50, 965, 966, 967, 968, 969, 970, 971, 972, 973, 974, 975] (by decide +kernel) (by decide +kernel)
set_option maxRecDepth 20000 in
theorem gL_law_X8_why : GoodIn wsL_law (wsV RL 105 RX8 yX8_why wsX8_why) := goodIn_app (goodIn_of _ (by decide +kernel)) ggL_law_X8_why
set_option maxRecDepth 20000 in
theorem ggL_law_X9_why : GoodIn wsL_law wsX9_why := goodIn_r _ [628, 133, 976, 977, 978, 979, 980, 981, 982, 983, 984, 985, 986, 987, 988, 989, 990, 991, 992, 993, 994, 995, 996, 997, 998, 999, 1000, 1001, 1002, 1003, 1004, 1005, 1006, 1007, 1008, 1009, 1010, 1011] (by decide +kernel) (by decide +kernel)
set_option maxRecDepth 20000 in
theorem gL_law_X9_why : GoodIn wsL_law (wsV RL 108 RX9 yX9_why wsX9_why) := goodIn_app (goodIn_of _ (by decide +kernel)) ggL_law_X9_why
theorem ggL_law_X8_low_h : GoodIn wsL_law [.code yX8_low cX8_low 1 (some .int)] := goodIn_r _ [632] (by decide +kernel) (by decide +kernel)
theorem ggL_law_X8_low_wsX8_low_r1 : GoodIn wsL_law wsX8_low_r1 := goodIn_r _ [40, 19, 36, 23, 226, 608, 524, 525, 2, 526, 165, 236, 237, 238, 239, 240, 241, 242, 269, 270, 271, 22, 272, 73] (by decide +kernel) (by decide +kernel)
theorem ggL_law_X8_low_wsX8_low_r2 : GoodIn wsL_law wsX8_low_r2 := goodIn_r _ [633, 634, 635, 39, 636, 637, 100, 638, 639, 640, 641, 642, 643, 99, 175, 176, 177, 178, 179, 644, 407, 408, 409, 645] (by decide +kernel) (by decide +kernel)
theorem ggL_law_X8_low_wsX8_low_r3 : GoodIn wsL_law wsX8_low_r3 := goodIn_r _ [542, 543, 35, 544, 93, 545, 94, 546, 547, 548, 549, 550, 551, 552, 553, 554, 439, 440, 555, 301, 302, 18, 303, 159] (by decide +kernel) (by decide +kernel)
theorem ggL_law_X8_low_wsX8_low_r4 : GoodIn wsL_law wsX8_low_r4 := goodIn_r _ [160, 304, 155, 156, 157, 62, 63, 556, 265, 266, 267, 268, 233, 234, 235, 68, 65, 557, 306, 307, 308, 309, 310, 311] (by decide +kernel) (by decide +kernel)
theorem ggL_law_X8_low_wsX8_low_r5 : GoodIn wsL_law wsX8_low_r5 := goodIn_r _ [312, 66, 558, 322, 323, 324, 559, 560, 561, 562, 563, 318, 319, 320, 646, 647, 648, 649, 650, 651, 652, 653, 654, 655] (by decide +kernel) (by decide +kernel)
theorem ggL_law_X8_low_wsX8_low_r6 : GoodIn wsL_law wsX8_low_r6 := goodIn_r _ [656, 657, 658, 659, 660, 661, 56, 57, 58, 662] (by decide +kernel) (by decide +kernel)
theorem ggL_law_X8_low : GoodIn wsL_law wsX8_low := q_gcons ggL_law_X8_low_h (goodIn_app (goodIn_app (goodIn_app (goodIn_app (goodIn_app (goodIn_app ggL_law_X8_low_wsX8_low_r1 (goodIn_app ggL_law_X8_low_wsX8_low_r2 (goodIn_app ggL_law_X8_low_wsX8_low_r3 (goodIn_app ggL_law_X8_low_wsX8_low_r4 (goodIn_app ggL_law_X8_low_wsX8_low_r5 (ggL_law_X8_low_wsX8_low_r6)))))) gw_wsL_law_wsX80) gw_wsL_law_wsX30) gw_wsL_law_wsX00) gw_wsL_law_wsX10) gw_wsL_law_wsX20)
set_option maxRecDepth 20000 in
theorem gL_law_X8_low : GoodIn wsL_law (wsV RL 109 RX8 yX8_low wsX8_low) := goodIn_app (goodIn_of _ (by decide +kernel)) ggL_law_X8_low
theorem ggL_law_X9_low_h : GoodIn wsL_law [.code yX9_low cX9_low 6 (some .int)] := goodIn_r _ [666] (by decide +kernel) (by decide +kernel)
theorem ggL_law_X9_low_wsX9_low_r1 : GoodIn wsL_law wsX9_low_r1 := goodIn_r _ [137, 667, 125, 124, 138, 135, 620, 528, 529, 5, 530, 126, 256, 257, 258, 259, 572, 573, 574, 575, 349, 350, 351, 352] (by decide +kernel) (by decide +kernel)
theorem ggL_law_X9_low_wsX9_low_r2 : GoodIn wsL_law wsX9_low_r2 := goodIn_r _ [195, 196, 197, 198, 148, 149, 252, 253, 254, 255, 123, 121, 357, 358, 359, 360, 361, 362, 363, 364, 122] (by decide +kernel) (by decide +kernel)
theorem ggL_law_X9_low : GoodIn wsL_law wsX9_low := q_gcons ggL_law_X9_low_h (goodIn_app (goodIn_app ggL_law_X9_low_wsX9_low_r1 (ggL_law_X9_low_wsX9_low_r2)) gw_wsL_law_wsX90)
set_option maxRecDepth 20000 in
theorem gL_law_X9_low : GoodIn wsL_law (wsV RL 112 RX9 yX9_low wsX9_low) := goodIn_app (goodIn_of _ (by decide +kernel)) ggL_law_X9_low
theorem ggL_law_X8_price_h : GoodIn wsL_law [.code yX8_price cX8_price 7 (some .int)] := goodIn_r _ [671] (by decide +kernel) (by decide +kernel)
theorem ggL_law_X8_price_wsX8_price_r1 : GoodIn wsL_law wsX8_price_r1 := goodIn_r _ [19, 36, 154, 155, 156, 18, 157, 62, 63, 232, 233, 234, 235, 68, 65, 672, 542, 543, 35, 544, 93, 545, 94, 546] (by decide +kernel) (by decide +kernel)
theorem ggL_law_X8_price_wsX8_price_r2 : GoodIn wsL_law wsX8_price_r2 := goodIn_r _ [407, 408, 409, 547, 548, 549, 550, 178, 2, 179, 551, 552, 553, 554, 439, 440, 555, 301, 302, 303, 159, 160, 304, 556] (by decide +kernel) (by decide +kernel)
theorem ggL_law_X8_price_wsX8_price_r3 : GoodIn wsL_law wsX8_price_r3 := goodIn_r _ [265, 266, 267, 268, 557, 306, 307, 308, 309, 310, 311, 312, 66, 558, 322, 323, 324, 559, 560, 561, 562, 563, 318, 319] (by decide +kernel) (by decide +kernel)
theorem ggL_law_X8_price_wsX8_price_r4 : GoodIn wsL_law wsX8_price_r4 := goodIn_r _ [320, 673] (by decide +kernel) (by decide +kernel)
theorem ggL_law_X8_price : GoodIn wsL_law wsX8_price := q_gcons ggL_law_X8_price_h (goodIn_app (goodIn_app (goodIn_app (goodIn_app ggL_law_X8_price_wsX8_price_r1 (goodIn_app ggL_law_X8_price_wsX8_price_r2 (goodIn_app ggL_law_X8_price_wsX8_price_r3 (ggL_law_X8_price_wsX8_price_r4)))) gw_wsL_law_wsX80) gw_wsL_law_wsX00) gw_wsL_law_wsX20)
set_option maxRecDepth 20000 in
theorem gL_law_X8_price : GoodIn wsL_law (wsV RL 113 RX8 yX8_price wsX8_price) := goodIn_app (goodIn_of _ (by decide +kernel)) ggL_law_X8_price
theorem ggL_law_X9_price_h : GoodIn wsL_law [.code yX9_price cX9_price 5 (some .int)] := goodIn_r _ [677] (by decide +kernel) (by decide +kernel)
theorem ggL_law_X9_price_wsX9_price_r1 : GoodIn wsL_law wsX9_price_r1 := goodIn_r _ [135, 195, 196, 197, 5, 198, 148, 149, 252, 253, 254, 255, 123, 121, 572, 573, 574, 575, 349, 350, 351, 352, 357, 358] (by decide +kernel) (by decide +kernel)
theorem ggL_law_X9_price_wsX9_price_r2 : GoodIn wsL_law wsX9_price_r2 := goodIn_r _ [359, 360, 361, 362, 363, 364, 122] (by decide +kernel) (by decide +kernel)
theorem ggL_law_X9_price : GoodIn wsL_law wsX9_price := q_gcons ggL_law_X9_price_h (goodIn_app (goodIn_app ggL_law_X9_price_wsX9_price_r1 (ggL_law_X9_price_wsX9_price_r2)) gw_wsL_law_wsX90)
set_option maxRecDepth 20000 in
theorem gL_law_X9_price : GoodIn wsL_law (wsV RL 116 RX9 yX9_price wsX9_price) := goodIn_app (goodIn_of _ (by decide +kernel)) ggL_law_X9_price
theorem ggL_law_X8_fewest_h : GoodIn wsL_law [.code yX8_fewest cX8_fewest 1 (some .int)] := goodIn_r _ [681] (by decide +kernel) (by decide +kernel)
theorem ggL_law_X8_fewest_wsX8_fewest_r1 : GoodIn wsL_law wsX8_fewest_r1 := goodIn_r _ [23, 226, 19, 44, 48, 608, 524, 525, 2, 526, 165, 236, 237, 238, 239, 240, 241, 242, 269, 270, 271, 22, 272, 73] (by decide +kernel) (by decide +kernel)
theorem ggL_law_X8_fewest_wsX8_fewest_r2 : GoodIn wsL_law wsX8_fewest_r2 := goodIn_r _ [682, 683, 684, 18, 685, 268, 233, 234, 235, 68, 65, 686, 687, 688, 689, 36, 232, 535, 536, 537, 35, 538, 539, 93] (by decide +kernel) (by decide +kernel)
theorem ggL_law_X8_fewest_wsX8_fewest_r3 : GoodIn wsL_law wsX8_fewest_r3 := goodIn_r _ [540, 541, 542, 543, 544, 545, 94, 546, 407, 408, 409, 547, 548, 549, 550, 178, 179, 551, 552, 553, 554, 439, 440, 555] (by decide +kernel) (by decide +kernel)
theorem ggL_law_X8_fewest_wsX8_fewest_r4 : GoodIn wsL_law wsX8_fewest_r4 := goodIn_r _ [301, 302, 303, 159, 160, 304, 155, 156, 157, 62, 63, 556, 265, 266, 267, 557, 306, 307, 308, 309, 310, 311, 312, 66] (by decide +kernel) (by decide +kernel)
theorem ggL_law_X8_fewest_wsX8_fewest_r5 : GoodIn wsL_law wsX8_fewest_r5 := goodIn_r _ [558, 322, 323, 324, 559, 560, 561, 562, 563, 318, 319, 320, 175, 176, 177, 244, 245, 246, 247, 690, 691, 692, 43, 693] (by decide +kernel) (by decide +kernel)
theorem ggL_law_X8_fewest_wsX8_fewest_r6 : GoodIn wsL_law wsX8_fewest_r6 := goodIn_r _ [694, 695, 696, 697, 698, 699, 700, 701, 60, 57, 61, 702, 703, 704, 705, 706, 707, 105, 708, 709, 710, 711, 712, 108] (by decide +kernel) (by decide +kernel)
theorem ggL_law_X8_fewest_wsX8_fewest_r7 : GoodIn wsL_law wsX8_fewest_r7 := goodIn_r _ [106, 107, 713, 714, 715, 716, 717, 718, 719, 720, 721, 722, 723, 724, 725, 726, 727, 728, 651, 652, 653, 654, 655, 656] (by decide +kernel) (by decide +kernel)
theorem ggL_law_X8_fewest_wsX8_fewest_r8 : GoodIn wsL_law wsX8_fewest_r8 := goodIn_r _ [729, 730, 731, 732, 733, 734, 56, 58, 109, 735, 736, 737, 738, 64, 110, 79, 111, 739, 740, 741, 742, 743, 744, 745] (by decide +kernel) (by decide +kernel)
theorem ggL_law_X8_fewest_wsX8_fewest_r9 : GoodIn wsL_law wsX8_fewest_r9 := goodIn_r _ [746, 747, 748, 749, 750, 751, 752, 753, 754, 755, 756, 757, 758, 759, 760, 761, 762, 763, 764, 765, 766, 767, 768, 769] (by decide +kernel) (by decide +kernel)
theorem ggL_law_X8_fewest_wsX8_fewest_r10 : GoodIn wsL_law wsX8_fewest_r10 := goodIn_r _ [770, 771, 772, 773, 774, 775, 776, 777, 778, 779, 780, 781, 782, 783, 784, 785, 786, 787, 788, 789, 790, 791, 792, 793] (by decide +kernel) (by decide +kernel)
theorem ggL_law_X8_fewest_wsX8_fewest_r11 : GoodIn wsL_law wsX8_fewest_r11 := goodIn_r _ [794, 795, 796, 797, 798, 799, 800, 801, 802, 803, 804, 805, 806, 47, 807, 808, 116, 809, 810, 811, 812, 813, 814, 815] (by decide +kernel) (by decide +kernel)
theorem ggL_law_X8_fewest_wsX8_fewest_r12 : GoodIn wsL_law wsX8_fewest_r12 := goodIn_r _ [816, 817, 818, 819, 820, 821, 822, 823] (by decide +kernel) (by decide +kernel)
theorem ggL_law_X8_fewest : GoodIn wsL_law wsX8_fewest := q_gcons ggL_law_X8_fewest_h (goodIn_app (goodIn_app (goodIn_app (goodIn_app (goodIn_app (goodIn_app (goodIn_app ggL_law_X8_fewest_wsX8_fewest_r1 (goodIn_app ggL_law_X8_fewest_wsX8_fewest_r2 (goodIn_app ggL_law_X8_fewest_wsX8_fewest_r3 (goodIn_app ggL_law_X8_fewest_wsX8_fewest_r4 (goodIn_app ggL_law_X8_fewest_wsX8_fewest_r5 (goodIn_app ggL_law_X8_fewest_wsX8_fewest_r6 (goodIn_app ggL_law_X8_fewest_wsX8_fewest_r7 (goodIn_app ggL_law_X8_fewest_wsX8_fewest_r8 (goodIn_app ggL_law_X8_fewest_wsX8_fewest_r9 (goodIn_app ggL_law_X8_fewest_wsX8_fewest_r10 (goodIn_app ggL_law_X8_fewest_wsX8_fewest_r11 (ggL_law_X8_fewest_wsX8_fewest_r12)))))))))))) gw_wsL_law_wsX80) gw_wsL_law_wsX30) gw_wsL_law_wsX00) gw_wsL_law_wsX20) gw_wsL_law_wsX70) gw_wsL_law_wsX40)
set_option maxRecDepth 20000 in
theorem gL_law_X8_fewest : GoodIn wsL_law (wsV RL 117 RX8 yX8_fewest wsX8_fewest) := goodIn_app (goodIn_of _ (by decide +kernel)) ggL_law_X8_fewest
theorem ggL_law_X9_fewest_h : GoodIn wsL_law [.code yX9_fewest cX9_fewest 4 (some .int)] := goodIn_r _ [827] (by decide +kernel) (by decide +kernel)
theorem ggL_law_X9_fewest_wsX9_fewest_r1 : GoodIn wsL_law wsX9_fewest_r1 := goodIn_r _ [124, 828, 667, 141, 142, 829, 830, 620, 528, 529, 5, 530, 126, 125, 256, 257, 258, 259, 831, 832, 833, 834, 139, 149] (by decide +kernel) (by decide +kernel)
theorem ggL_law_X9_fewest_wsX9_fewest_r2 : GoodIn wsL_law wsX9_fewest_r2 := goodIn_r _ [148, 140, 252, 253, 254, 255, 123, 121, 373, 374, 375, 376, 127, 128, 377, 129, 378, 130, 379, 380, 381, 382, 835, 836] (by decide +kernel) (by decide +kernel)
theorem ggL_law_X9_fewest_wsX9_fewest_r3 : GoodIn wsL_law wsX9_fewest_r3 := goodIn_r _ [837, 838, 839, 840, 841, 842, 143, 146, 843, 844, 845, 846, 847, 848, 849, 850, 851, 852, 345, 346, 347, 348, 349, 350] (by decide +kernel) (by decide +kernel)
theorem ggL_law_X9_fewest_wsX9_fewest_r4 : GoodIn wsL_law wsX9_fewest_r4 := goodIn_r _ [351, 352, 195, 196, 197, 198, 353, 354, 355, 356, 357, 358, 359, 360, 361, 362, 363, 364, 122, 365, 366, 367, 368, 383] (by decide +kernel) (by decide +kernel)
theorem ggL_law_X9_fewest_wsX9_fewest_r5 : GoodIn wsL_law wsX9_fewest_r5 := goodIn_r _ [384, 385, 386, 853, 520, 521, 522, 854, 855, 856, 857, 147, 144, 145, 131, 471, 472, 473, 474] (by decide +kernel) (by decide +kernel)
theorem ggL_law_X9_fewest : GoodIn wsL_law wsX9_fewest := q_gcons ggL_law_X9_fewest_h (goodIn_app (goodIn_app ggL_law_X9_fewest_wsX9_fewest_r1 (goodIn_app ggL_law_X9_fewest_wsX9_fewest_r2 (goodIn_app ggL_law_X9_fewest_wsX9_fewest_r3 (goodIn_app ggL_law_X9_fewest_wsX9_fewest_r4 (ggL_law_X9_fewest_wsX9_fewest_r5))))) gw_wsL_law_wsX90)
set_option maxRecDepth 20000 in
theorem gL_law_X9_fewest : GoodIn wsL_law (wsV RL 120 RX9 yX9_fewest wsX9_fewest) := goodIn_app (goodIn_of _ (by decide +kernel)) ggL_law_X9_fewest
set_option maxRecDepth 20000 in
theorem ggL_law_X8_steps : GoodIn wsL_law wsX8_steps := goodIn_r _ [861, 48, 862, 965, 966, 967, 968, 969, 970, 971, 972, 973, 974, 975, 1049, 1050] (by decide +kernel) (by decide +kernel)
set_option maxRecDepth 20000 in
theorem gL_law_X8_steps : GoodIn wsL_law (wsV RL 121 RX8 yX8_steps wsX8_steps) := goodIn_app (goodIn_of _ (by decide +kernel)) ggL_law_X8_steps
set_option maxRecDepth 20000 in
theorem ggL_law_X9_steps : GoodIn wsL_law wsX9_steps := goodIn_r _ [866, 829, 976, 977, 978, 979, 980, 981, 982, 983, 984, 985, 986, 987, 988, 989, 990, 991, 992, 993, 994, 995, 996, 997, 998, 999, 1000, 1001, 1002, 1003, 1004, 1005, 1006, 1007, 1008, 1009, 1010, 1011] (by decide +kernel) (by decide +kernel)
set_option maxRecDepth 20000 in
theorem gL_law_X9_steps : GoodIn wsL_law (wsV RL 124 RX9 yX9_steps wsX9_steps) := goodIn_app (goodIn_of _ (by decide +kernel)) ggL_law_X9_steps
set_option maxRecDepth 20000 in
theorem ggL_law_X8_plan : GoodIn wsL_law wsX8_plan := goodIn_r _ [870, 48, 871, 872, 873, 47, 874, 116, 875, 876, 877, 878, 808, 965, 966, 967, 968, 969, 970, 971, 972, 973, 974, 975, 1049, 1050] (by decide +kernel) (by decide +kernel)
set_option maxRecDepth 20000 in
theorem gL_law_X8_plan : GoodIn wsL_law (wsV RL 125 RX8 yX8_plan wsX8_plan) := goodIn_app (goodIn_of _ (by decide +kernel)) ggL_law_X8_plan
set_option maxRecDepth 20000 in
theorem ggL_law_X9_plan : GoodIn wsL_law wsX9_plan := goodIn_r _ [882, 829, 131, 976, 977, 978, 979, 980, 981, 982, 983, 984, 985, 986, 987, 988, 989, 990, 991, 992, 993, 994, 995, 996, 997, 998, 999, 1000, 1001, 1002, 1003, 1004, 1005, 1006, 1007, 1008, 1009, 1010, 1011] (by decide +kernel) (by decide +kernel)
set_option maxRecDepth 20000 in
theorem gL_law_X9_plan : GoodIn wsL_law (wsV RL 128 RX9 yX9_plan wsX9_plan) := goodIn_app (goodIn_of _ (by decide +kernel)) ggL_law_X9_plan
theorem ggL_law_X8_follow_h : GoodIn wsL_law [.code yX8_follow cX8_follow 2 (some .int)] := goodIn_r _ [886] (by decide +kernel) (by decide +kernel)
theorem ggL_law_X8_follow_wsX8_follow_r1 : GoodIn wsL_law wsX8_follow_r1 := goodIn_r _ [24, 23, 19, 48, 862, 289, 290, 291, 22, 292, 73, 174, 293, 294, 887, 888, 889, 890, 891, 892, 872, 873, 47, 874] (by decide +kernel) (by decide +kernel)
theorem ggL_law_X8_follow_wsX8_follow_r2 : GoodIn wsL_law wsX8_follow_r2 := goodIn_r _ [116, 875, 876, 877, 878, 808, 893, 296, 297, 298, 299, 270, 271, 272, 159, 2, 160, 300, 301, 302, 18, 303, 178, 179] (by decide +kernel) (by decide +kernel)
theorem ggL_law_X8_follow_wsX8_follow_r3 : GoodIn wsL_law wsX8_follow_r3 := goodIn_r _ [304, 155, 156, 157, 62, 63, 170, 171, 172, 173, 175, 176, 177, 305, 306, 307, 308, 268, 233, 234, 235, 68, 65, 309] (by decide +kernel) (by decide +kernel)
theorem ggL_law_X8_follow_wsX8_follow_r4 : GoodIn wsL_law wsX8_follow_r4 := goodIn_r _ [310, 311, 312, 66, 313, 314, 315, 316, 317, 318, 319, 320, 321, 322, 323, 324, 245, 246, 247, 325, 326, 327, 328, 28] (by decide +kernel) (by decide +kernel)
theorem ggL_law_X8_follow_wsX8_follow_r5 : GoodIn wsL_law wsX8_follow_r5 := goodIn_r _ [329, 330, 331, 27, 332, 185, 186, 333, 334, 335, 336, 78, 337, 80, 338, 81, 339, 82, 340] (by decide +kernel) (by decide +kernel)
theorem ggL_law_X8_follow : GoodIn wsL_law wsX8_follow := q_gcons ggL_law_X8_follow_h (goodIn_app (goodIn_app (goodIn_app (goodIn_app (goodIn_app (goodIn_app ggL_law_X8_follow_wsX8_follow_r1 (goodIn_app ggL_law_X8_follow_wsX8_follow_r2 (goodIn_app ggL_law_X8_follow_wsX8_follow_r3 (goodIn_app ggL_law_X8_follow_wsX8_follow_r4 (ggL_law_X8_follow_wsX8_follow_r5))))) gw_wsL_law_wsX80) gw_wsL_law_wsX70) gw_wsL_law_wsX30) gw_wsL_law_wsX00) gw_wsL_law_wsX50)
set_option maxRecDepth 20000 in
theorem gL_law_X8_follow : GoodIn wsL_law (wsV RL 129 RX8 yX8_follow wsX8_follow) := goodIn_app (goodIn_of _ (by decide +kernel)) ggL_law_X8_follow
theorem ggL_law_X9_follow_h : GoodIn wsL_law [.code yX9_follow cX9_follow 2 (some .int)] := goodIn_r _ [897] (by decide +kernel) (by decide +kernel)
theorem ggL_law_X9_follow_wsX9_follow_r1 : GoodIn wsL_law wsX9_follow_r1 := goodIn_r _ [126, 829, 131, 373, 374, 375, 5, 376, 127, 128, 377, 129, 378, 130, 379, 380, 381, 382, 124, 898, 899, 900, 901, 345] (by decide +kernel) (by decide +kernel)
theorem ggL_law_X9_follow_wsX9_follow_r2 : GoodIn wsL_law wsX9_follow_r2 := goodIn_r _ [346, 347, 348, 349, 350, 351, 352, 195, 196, 197, 198, 148, 149, 353, 354, 355, 356, 357, 358, 359, 360, 361, 362, 363] (by decide +kernel) (by decide +kernel)
theorem ggL_law_X9_follow_wsX9_follow_r3 : GoodIn wsL_law wsX9_follow_r3 := goodIn_r _ [364, 122, 252, 253, 254, 255, 123, 121, 365, 366, 367, 368, 383, 384, 385, 386, 471, 472, 473, 474, 369, 370, 371, 372] (by decide +kernel) (by decide +kernel)
theorem ggL_law_X9_follow_wsX9_follow_r4 : GoodIn wsL_law wsX9_follow_r4 := goodIn_r _ [206, 207, 387, 388, 389, 390] (by decide +kernel) (by decide +kernel)
theorem ggL_law_X9_follow : GoodIn wsL_law wsX9_follow := q_gcons ggL_law_X9_follow_h (goodIn_app (goodIn_app ggL_law_X9_follow_wsX9_follow_r1 (goodIn_app ggL_law_X9_follow_wsX9_follow_r2 (goodIn_app ggL_law_X9_follow_wsX9_follow_r3 (ggL_law_X9_follow_wsX9_follow_r4)))) gw_wsL_law_wsX90)
set_option maxRecDepth 20000 in
theorem gL_law_X9_follow : GoodIn wsL_law (wsV RL 132 RX9 yX9_follow wsX9_follow) := goodIn_app (goodIn_of _ (by decide +kernel)) ggL_law_X9_follow
set_option maxRecDepth 20000 in
theorem ggL_law_X8_tell : GoodIn wsL_law wsX8_tell := goodIn_r _ [905, 49, 862, 158, 159, 2, 160, 906, 805, 806, 47, 807, 808, 116, 809, 810, 811, 408, 812, 813, 814, 815, 816, 817, 818, 64, 819, 56, 57, 58, 820, 821, 822, 823, 965, 966, 967, 968, 969, 970, 971, 972, 973, 974, 975, 1049, 1050] (by decide +kernel) (by decide +kernel)
set_option maxRecDepth 20000 in
theorem gL_law_X8_tell : GoodIn wsL_law (wsV RL 133 RX8 yX8_tell wsX8_tell) := goodIn_app (goodIn_of _ (by decide +kernel)) ggL_law_X8_tell
set_option maxRecDepth 20000 in
theorem ggL_law_X9_tell : GoodIn wsL_law wsX9_tell := goodIn_r _ [910, 911, 132, 199, 200, 5, 201, 976, 977, 978, 979, 980, 981, 982, 983, 984, 985, 986, 987, 988, 989, 990, 991, 992, 993, 994, 995, 996, 997, 998, 999, 1000, 1001, 1002, 1003, 1004, 1005, 1006, 1007, 1008, 1009, 1010, 1011] (by decide +kernel) (by decide +kernel)
set_option maxRecDepth 20000 in
theorem gL_law_X9_tell : GoodIn wsL_law (wsV RL 136 RX9 yX9_tell wsX9_tell) := goodIn_app (goodIn_of _ (by decide +kernel)) ggL_law_X9_tell
set_option maxRecDepth 20000 in
theorem ggL_law_X8_copy : GoodIn wsL_law wsX8_copy := goodIn_r _ [915, 48, 862, 49, 916, 917, 918, 47, 919, 808, 920, 872, 873, 874, 116, 875, 876, 877, 878, 921, 805, 806, 807, 809, 810, 811, 408, 812, 813, 814, 815, 816, 817, 818, 64, 819, 56, 57, 58, 820, 821, 822, 823, 965, 966, 967, 968, 969, 970, 971, 972, 973, 974, 975, 1049, 1050] (by decide +kernel) (by decide +kernel)
set_option maxRecDepth 20000 in
theorem gL_law_X8_copy : GoodIn wsL_law (wsV RL 137 RX8 yX8_copy wsX8_copy) := goodIn_app (goodIn_of _ (by decide +kernel)) ggL_law_X8_copy
set_option maxRecDepth 20000 in
theorem ggL_law_X9_copy : GoodIn wsL_law wsX9_copy := goodIn_r _ [925, 829, 132, 131, 911, 976, 977, 978, 979, 980, 981, 982, 983, 984, 985, 986, 987, 988, 989, 990, 991, 992, 993, 994, 995, 996, 997, 998, 999, 1000, 1001, 1002, 1003, 1004, 1005, 1006, 1007, 1008, 1009, 1010, 1011] (by decide +kernel) (by decide +kernel)
set_option maxRecDepth 20000 in
theorem gL_law_X9_copy : GoodIn wsL_law (wsV RL 140 RX9 yX9_copy wsX9_copy) := goodIn_app (goodIn_of _ (by decide +kernel)) ggL_law_X9_copy
set_option maxRecDepth 20000 in
theorem ggL_law_X8_forge : GoodIn wsL_law wsX8_forge := goodIn_r _ [929, 49, 871, 872, 873, 47, 874, 116, 875, 876, 877, 878, 808, 158, 159, 2, 160, 930, 931, 932, 933, 965, 966, 967, 968, 969, 970, 971, 972, 973, 974, 975, 1049, 1050] (by decide +kernel) (by decide +kernel)
set_option maxRecDepth 20000 in
theorem gL_law_X8_forge : GoodIn wsL_law (wsV RL 141 RX8 yX8_forge wsX8_forge) := goodIn_app (goodIn_of _ (by decide +kernel)) ggL_law_X8_forge
set_option maxRecDepth 20000 in
theorem ggL_law_X9_forge : GoodIn wsL_law wsX9_forge := goodIn_r _ [937, 911, 132, 199, 200, 5, 201, 976, 977, 978, 979, 980, 981, 982, 983, 984, 985, 986, 987, 988, 989, 990, 991, 992, 993, 994, 995, 996, 997, 998, 999, 1000, 1001, 1002, 1003, 1004, 1005, 1006, 1007, 1008, 1009, 1010, 1011] (by decide +kernel) (by decide +kernel)
set_option maxRecDepth 20000 in
theorem gL_law_X9_forge : GoodIn wsL_law (wsV RL 144 RX9 yX9_forge wsX9_forge) := goodIn_app (goodIn_of _ (by decide +kernel)) ggL_law_X9_forge
set_option maxRecDepth 20000 in
theorem ggL_law_X8_hush : GoodIn wsL_law wsX8_hush := goodIn_r _ [941, 49, 862, 965, 966, 967, 968, 969, 970, 971, 972, 973, 974, 975, 1049, 1050] (by decide +kernel) (by decide +kernel)
set_option maxRecDepth 20000 in
theorem gL_law_X8_hush : GoodIn wsL_law (wsV RL 145 RX8 yX8_hush wsX8_hush) := goodIn_app (goodIn_of _ (by decide +kernel)) ggL_law_X8_hush
set_option maxRecDepth 20000 in
theorem ggL_law_X9_hush : GoodIn wsL_law wsX9_hush := goodIn_r _ [945, 911, 976, 977, 978, 979, 980, 981, 982, 983, 984, 985, 986, 987, 988, 989, 990, 991, 992, 993, 994, 995, 996, 997, 998, 999, 1000, 1001, 1002, 1003, 1004, 1005, 1006, 1007, 1008, 1009, 1010, 1011] (by decide +kernel) (by decide +kernel)
set_option maxRecDepth 20000 in
theorem gL_law_X9_hush : GoodIn wsL_law (wsV RL 148 RX9 yX9_hush wsX9_hush) := goodIn_app (goodIn_of _ (by decide +kernel)) ggL_law_X9_hush
theorem ggL_law_X8_check_h : GoodIn wsL_law [.code yX8_check cX8_check 3 (some .int)] := goodIn_r _ [949] (by decide +kernel) (by decide +kernel)
theorem ggL_law_X8_check_wsX8_check_r1 : GoodIn wsL_law wsX8_check_r1 := goodIn_r _ [23, 24, 19, 49, 862, 269, 270, 271, 22, 272, 73, 289, 290, 291, 292, 174, 293, 294, 887, 888, 889, 890, 891, 892] (by decide +kernel) (by decide +kernel)
theorem ggL_law_X8_check_wsX8_check_r2 : GoodIn wsL_law wsX8_check_r2 := goodIn_r _ [872, 873, 47, 874, 116, 875, 876, 877, 878, 808, 893, 296, 297, 298, 299, 159, 2, 160, 300, 301, 302, 18, 303, 178] (by decide +kernel) (by decide +kernel)
theorem ggL_law_X8_check_wsX8_check_r3 : GoodIn wsL_law wsX8_check_r3 := goodIn_r _ [179, 304, 155, 156, 157, 62, 63, 170, 171, 172, 173, 175, 176, 177, 305, 306, 307, 308, 268, 233, 234, 235, 68, 65] (by decide +kernel) (by decide +kernel)
theorem ggL_law_X8_check_wsX8_check_r4 : GoodIn wsL_law wsX8_check_r4 := goodIn_r _ [309, 310, 311, 312, 66, 313, 314, 315, 316, 317, 318, 319, 320, 321, 322, 323, 324, 245, 246, 247, 515, 516, 517, 518] (by decide +kernel) (by decide +kernel)
theorem ggL_law_X8_check_wsX8_check_r5 : GoodIn wsL_law wsX8_check_r5 := goodIn_r _ [165, 226] (by decide +kernel) (by decide +kernel)
theorem ggL_law_X8_check : GoodIn wsL_law wsX8_check := q_gcons ggL_law_X8_check_h (goodIn_app (goodIn_app (goodIn_app (goodIn_app (goodIn_app ggL_law_X8_check_wsX8_check_r1 (goodIn_app ggL_law_X8_check_wsX8_check_r2 (goodIn_app ggL_law_X8_check_wsX8_check_r3 (goodIn_app ggL_law_X8_check_wsX8_check_r4 (ggL_law_X8_check_wsX8_check_r5))))) gw_wsL_law_wsX80) gw_wsL_law_wsX70) gw_wsL_law_wsX30) gw_wsL_law_wsX00)
set_option maxRecDepth 20000 in
theorem gL_law_X8_check : GoodIn wsL_law (wsV RL 149 RX8 yX8_check wsX8_check) := goodIn_app (goodIn_of _ (by decide +kernel)) ggL_law_X8_check
theorem ggL_law_X9_check_h : GoodIn wsL_law [.code yX9_check cX9_check 3 (some .int)] := goodIn_r _ [953] (by decide +kernel) (by decide +kernel)
theorem ggL_law_X9_check_wsX9_check_r1 : GoodIn wsL_law wsX9_check_r1 := goodIn_r _ [126, 132, 911, 373, 374, 375, 5, 376, 127, 128, 377, 129, 378, 130, 379, 380, 381, 382, 124, 898, 899, 900, 901, 345] (by decide +kernel) (by decide +kernel)
theorem ggL_law_X9_check_wsX9_check_r2 : GoodIn wsL_law wsX9_check_r2 := goodIn_r _ [346, 347, 348, 349, 350, 351, 352, 195, 196, 197, 198, 148, 149, 353, 354, 355, 356, 357, 358, 359, 360, 361, 362, 363] (by decide +kernel) (by decide +kernel)
theorem ggL_law_X9_check_wsX9_check_r3 : GoodIn wsL_law wsX9_check_r3 := goodIn_r _ [364, 122, 252, 253, 254, 255, 123, 121, 365, 366, 367, 368, 383, 384, 385, 386, 853, 520, 521, 522, 125, 471, 472, 473] (by decide +kernel) (by decide +kernel)
theorem ggL_law_X9_check_wsX9_check_r4 : GoodIn wsL_law wsX9_check_r4 := goodIn_r _ [474] (by decide +kernel) (by decide +kernel)
theorem ggL_law_X9_check : GoodIn wsL_law wsX9_check := q_gcons ggL_law_X9_check_h (goodIn_app (goodIn_app ggL_law_X9_check_wsX9_check_r1 (goodIn_app ggL_law_X9_check_wsX9_check_r2 (goodIn_app ggL_law_X9_check_wsX9_check_r3 (ggL_law_X9_check_wsX9_check_r4)))) gw_wsL_law_wsX90)
set_option maxRecDepth 20000 in
theorem gL_law_X9_check : GoodIn wsL_law (wsV RL 152 RX9 yX9_check wsX9_check) := goodIn_app (goodIn_of _ (by decide +kernel)) ggL_law_X9_check
theorem ggL_law_X8_count_h : GoodIn wsL_law [.code yX8_count cX8_count 2 (some .int)] := goodIn_r _ [957] (by decide +kernel) (by decide +kernel)
theorem ggL_law_X8_count_wsX8_count_r1 : GoodIn wsL_law wsX8_count_r1 := goodIn_r _ [19, 23, 226, 165, 399, 958, 32, 959, 28, 960, 49, 862, 231, 682, 683, 684, 18, 685, 268, 233, 234, 235, 68, 65] (by decide +kernel) (by decide +kernel)
theorem ggL_law_X8_count_wsX8_count_r2 : GoodIn wsL_law wsX8_count_r2 := goodIn_r _ [236, 237, 238, 239, 240, 241, 242, 400, 401, 402, 31, 403, 87, 404, 405, 88, 406, 407, 408, 409, 410, 411, 412, 413] (by decide +kernel) (by decide +kernel)
theorem ggL_law_X8_count_wsX8_count_r3 : GoodIn wsL_law wsX8_count_r3 := goodIn_r _ [178, 2, 179, 414, 301, 302, 303, 159, 160, 304, 155, 156, 157, 62, 63, 415, 306, 307, 308, 309, 310, 311, 312, 66] (by decide +kernel) (by decide +kernel)
theorem ggL_law_X8_count_wsX8_count_r4 : GoodIn wsL_law wsX8_count_r4 := goodIn_r _ [416, 171, 172, 22, 173, 174, 175, 176, 177, 417, 418, 419, 420] (by decide +kernel) (by decide +kernel)
theorem ggL_law_X8_count : GoodIn wsL_law wsX8_count := q_gcons ggL_law_X8_count_h (goodIn_app (goodIn_app (goodIn_app (goodIn_app (goodIn_app (goodIn_app (goodIn_app ggL_law_X8_count_wsX8_count_r1 (goodIn_app ggL_law_X8_count_wsX8_count_r2 (goodIn_app ggL_law_X8_count_wsX8_count_r3 (ggL_law_X8_count_wsX8_count_r4)))) gw_wsL_law_wsX80) gw_wsL_law_wsX30) gw_wsL_law_wsX00) gw_wsL_law_wsX60) gw_wsL_law_wsX50) gw_wsL_law_wsX70)
set_option maxRecDepth 20000 in
theorem gL_law_X8_count : GoodIn wsL_law (wsV RL 153 RX8 yX8_count wsX8_count) := goodIn_app (goodIn_of _ (by decide +kernel)) ggL_law_X8_count
theorem ggL_law_X9_count_h : GoodIn wsL_law [.code yX9_count cX9_count 4 (some .int)] := goodIn_r _ [964] (by decide +kernel) (by decide +kernel)
theorem ggL_law_X9_count_wsX9_count_r1 : GoodIn wsL_law wsX9_count_r1 := goodIn_r _ [124, 125, 377, 378, 126, 134, 206, 911, 831, 832, 833, 5, 834, 139, 149, 148, 140, 252, 253, 254, 255, 123, 121, 256] (by decide +kernel) (by decide +kernel)
theorem ggL_law_X9_count_wsX9_count_r2 : GoodIn wsL_law wsX9_count_r2 := goodIn_r _ [257, 258, 259, 426, 427, 428, 429, 349, 350, 351, 352, 195, 196, 197, 198, 353, 354, 355, 356, 357, 358, 359, 360, 361] (by decide +kernel) (by decide +kernel)
theorem ggL_law_X9_count_wsX9_count_r3 : GoodIn wsL_law wsX9_count_r3 := goodIn_r _ [362, 363, 364, 122] (by decide +kernel) (by decide +kernel)
theorem ggL_law_X9_count : GoodIn wsL_law wsX9_count := q_gcons ggL_law_X9_count_h (goodIn_app (goodIn_app ggL_law_X9_count_wsX9_count_r1 (goodIn_app ggL_law_X9_count_wsX9_count_r2 (ggL_law_X9_count_wsX9_count_r3))) gw_wsL_law_wsX90)
set_option maxRecDepth 20000 in
theorem gL_law_X9_count : GoodIn wsL_law (wsV RL 156 RX9 yX9_count wsX9_count) := goodIn_app (goodIn_of _ (by decide +kernel)) ggL_law_X9_count
