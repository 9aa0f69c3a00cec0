set_option maxRecDepth 20000 in
theorem ggX1_clear_J7_fill_53178 : GoodIn wsX1_clear wsJ7_fill_53178 := goodIn_r _ [7] (by decide +kernel) (by decide +kernel)
set_option maxRecDepth 20000 in
theorem gX1_clear_J7_fill_53178 : GoodIn wsX1_clear (va_wsS RX1 37 yJ7_fill_53178 wsJ7_fill_53178) := goodIn_app (goodIn_of _ (by decide +kernel)) ggX1_clear_J7_fill_53178
set_option maxRecDepth 20000 in
theorem ggX3_init_X7_init : GoodIn wsX3_init wsX7_init := goodIn_r _ [14, 15, 2, 3, 16, 17, 18, 19, 20, 21, 22, 23, 24, 25, 26, 37, 38, 39, 40, 41, 42, 43, 44, 45, 46, 47, 48] (by decide +kernel) (by decide +kernel)
set_option maxRecDepth 20000 in
theorem gX3_init_X7_init_n11 : GoodIn wsX3_init (wsX7_init) := ggX3_init_X7_init
set_option maxRecDepth 20000 in
theorem ggX3_init_X0_init : GoodIn wsX3_init wsX0_init := goodIn_r _ [28, 29, 2, 3, 17, 30, 31, 32, 33, 34, 35, 36, 59, 60, 61, 62, 63, 64, 65, 66, 67, 68] (by decide +kernel) (by decide +kernel)
set_option maxRecDepth 20000 in
theorem gX3_init_X0_init_n20 : GoodIn wsX3_init (wsX0_init) := ggX3_init_X0_init
set_option maxRecDepth 20000 in
theorem ggX3_read_X7_clear : GoodIn wsX3_read wsX7_clear := goodIn_r _ [17, 18, 19, 20, 21, 22, 23, 24, 25, 176, 177, 178, 179, 180, 181, 182, 183, 184, 185, 186, 187] (by decide +kernel) (by decide +kernel)
set_option maxRecDepth 20000 in
theorem gX3_read_X7_clear : GoodIn wsX3_read (wsV RX3 48 RX7 yX7_clear wsX7_clear) := goodIn_app (goodIn_of _ (by decide +kernel)) ggX3_read_X7_clear
set_option maxRecDepth 20000 in
theorem ggX3_read_X0_clear : GoodIn wsX3_read wsX0_clear := goodIn_r _ [30, 31, 32, 188, 189, 190, 191, 192, 193, 194, 195, 196, 197] (by decide +kernel) (by decide +kernel)
set_option maxRecDepth 20000 in
theorem gX3_read_X0_clear : GoodIn wsX3_read (wsV RX3 51 RX0 yX0_clear wsX0_clear) := goodIn_app (goodIn_of _ (by decide +kernel)) ggX3_read_X0_clear
set_option maxRecDepth 20000 in
theorem ggX3_read_X3_advance : GoodIn wsX3_read wsX3_advance := goodIn_r _ [37, 7, 6, 1, 38, 12, 39, 40, 41, 36, 42, 43, 44, 45, 46, 47, 48, 2, 3, 4, 5, 166, 167, 168, 169, 170, 171, 172, 173, 174, 175] (by decide +kernel) (by decide +kernel)
set_option maxRecDepth 20000 in
theorem gX3_read_X3_advance : GoodIn wsX3_read (wsV RX3 52 RX3 yX3_advance wsX3_advance) := goodIn_app (goodIn_of _ (by decide +kernel)) ggX3_read_X3_advance
set_option maxRecDepth 20000 in
theorem ggX5_lay_J7_fill_d0a16 : GoodIn wsX5_lay wsJ7_fill_d0a16 := goodIn_r _ [8] (by decide +kernel) (by decide +kernel)
set_option maxRecDepth 20000 in
theorem gX5_lay_J7_fill_d0a16 : GoodIn wsX5_lay (va_wsS RX5 26 yJ7_fill_d0a16 wsJ7_fill_d0a16) := goodIn_app (goodIn_of _ (by decide +kernel)) ggX5_lay_J7_fill_d0a16
set_option maxRecDepth 20000 in
theorem ggX6_init_X7_init : GoodIn wsX6_init wsX7_init := goodIn_r _ [24, 25, 2, 3, 26, 20, 27, 28, 29, 30, 31, 32, 33, 34, 35, 63, 64, 65, 66, 67, 68, 69, 70, 71, 72, 73, 74] (by decide +kernel) (by decide +kernel)
set_option maxRecDepth 20000 in
theorem gX6_init_X7_init_n11 : GoodIn wsX6_init (wsX7_init) := ggX6_init_X7_init
set_option maxRecDepth 20000 in
theorem ggX6_init_X0_init : GoodIn wsX6_init wsX0_init := goodIn_r _ [37, 38, 2, 3, 20, 39, 40, 41, 42, 43, 44, 45, 83, 84, 85, 86, 87, 88, 89, 90, 91, 92] (by decide +kernel) (by decide +kernel)
set_option maxRecDepth 20000 in
theorem gX6_init_X0_init_n20 : GoodIn wsX6_init (wsX0_init) := ggX6_init_X0_init
set_option maxRecDepth 20000 in
theorem ggX6_init_X1_init : GoodIn wsX6_init wsX1_init := goodIn_r _ [47, 48, 2, 3, 20, 49, 50, 51, 52, 53, 54, 55, 93, 94, 95, 96, 97, 98, 99, 100] (by decide +kernel) (by decide +kernel)
set_option maxRecDepth 20000 in
theorem gX6_init_X1_init_n27 : GoodIn wsX6_init (wsX1_init) := ggX6_init_X1_init
set_option maxRecDepth 20000 in
theorem ggX6_init_X2_init : GoodIn wsX6_init wsX2_init := goodIn_r _ [57, 58, 2, 3, 20, 59, 60, 61, 62, 101, 102, 103, 104, 105] (by decide +kernel) (by decide +kernel)
set_option maxRecDepth 20000 in
theorem gX6_init_X2_init_n34 : GoodIn wsX6_init (wsX2_init) := ggX6_init_X2_init
set_option maxRecDepth 20000 in
theorem ggX6_begin_X7_copy : GoodIn wsX6_begin wsX7_copy := goodIn_r _ [18, 19, 20, 21, 22, 23, 9, 10, 11, 24, 25, 26, 27, 28, 29, 30, 31, 71, 72, 73, 74, 75, 76, 77, 78, 79, 80, 81, 82] (by decide +kernel) (by decide +kernel)
set_option maxRecDepth 20000 in
theorem gX6_begin_X7_copy : GoodIn wsX6_begin (wsV RX6 46 RX7 yX7_copy wsX7_copy) := goodIn_app (goodIn_of _ (by decide +kernel)) ggX6_begin_X7_copy
set_option maxRecDepth 20000 in
theorem ggX6_begin_X0_copy : GoodIn wsX6_begin wsX0_copy := goodIn_r _ [36, 37, 38, 39, 40, 9, 10, 11, 41, 42, 43, 44, 45, 83, 84, 85, 86, 87, 88, 89, 90, 91, 92] (by decide +kernel) (by decide +kernel)
set_option maxRecDepth 20000 in
theorem gX6_begin_X0_copy : GoodIn wsX6_begin (wsV RX6 50 RX0 yX0_copy wsX0_copy) := goodIn_app (goodIn_of _ (by decide +kernel)) ggX6_begin_X0_copy
set_option maxRecDepth 20000 in
theorem ggX6_begin_X1_clear : GoodIn wsX6_begin wsX1_clear := goodIn_r _ [50, 51, 52, 53, 54, 55, 56, 57, 93, 94, 95, 96, 97, 98, 99, 100] (by decide +kernel) (by decide +kernel)
set_option maxRecDepth 20000 in
theorem gX6_begin_X1_clear : GoodIn wsX6_begin (wsV RX6 53 RX1 yX1_clear wsX1_clear) := goodIn_app (goodIn_of _ (by decide +kernel)) ggX6_begin_X1_clear
set_option maxRecDepth 20000 in
theorem ggX6_copy_X7_copy : GoodIn wsX6_copy wsX7_copy := goodIn_r _ [16, 17, 18, 19, 20, 21, 7, 8, 9, 22, 23, 24, 25, 26, 27, 28, 29, 77, 78, 79, 80, 81, 82, 83, 84, 85, 86, 87, 88] (by decide +kernel) (by decide +kernel)
set_option maxRecDepth 20000 in
theorem gX6_copy_X7_copy : GoodIn wsX6_copy (wsV RX6 46 RX7 yX7_copy wsX7_copy) := goodIn_app (goodIn_of _ (by decide +kernel)) ggX6_copy_X7_copy
set_option maxRecDepth 20000 in
theorem ggX6_copy_X0_copy : GoodIn wsX6_copy wsX0_copy := goodIn_r _ [34, 35, 36, 37, 38, 7, 8, 9, 39, 40, 41, 42, 43, 89, 90, 91, 92, 93, 94, 95, 96, 97, 98] (by decide +kernel) (by decide +kernel)
set_option maxRecDepth 20000 in
theorem gX6_copy_X0_copy : GoodIn wsX6_copy (wsV RX6 50 RX0 yX0_copy wsX0_copy) := goodIn_app (goodIn_of _ (by decide +kernel)) ggX6_copy_X0_copy
set_option maxRecDepth 20000 in
theorem ggX6_copy_X1_copy : GoodIn wsX6_copy wsX1_copy := goodIn_r _ [48, 49, 50, 51, 7, 8, 9, 52, 53, 54, 55, 56, 57, 99, 100, 101, 102, 103, 104, 105, 106] (by decide +kernel) (by decide +kernel)
set_option maxRecDepth 20000 in
theorem gX6_copy_X1_copy : GoodIn wsX6_copy (wsV RX6 75 RX1 yX1_copy wsX1_copy) := goodIn_app (goodIn_of _ (by decide +kernel)) ggX6_copy_X1_copy
set_option maxRecDepth 20000 in
theorem ggX6_copy_X2_copy : GoodIn wsX6_copy wsX2_copy := goodIn_r _ [62, 63, 64, 65, 7, 8, 9, 66, 67, 68, 107, 108, 109, 110, 111] (by decide +kernel) (by decide +kernel)
set_option maxRecDepth 20000 in
theorem gX6_copy_X2_copy : GoodIn wsX6_copy (wsV RX6 78 RX2 yX2_copy wsX2_copy) := goodIn_app (goodIn_of _ (by decide +kernel)) ggX6_copy_X2_copy
set_option maxRecDepth 20000 in
theorem ggX7_clear_J7_fill_53178 : GoodIn wsX7_clear wsJ7_fill_53178 := goodIn_r _ [8] (by decide +kernel) (by decide +kernel)
set_option maxRecDepth 20000 in
theorem gX7_clear_J7_fill_53178 : GoodIn wsX7_clear (va_wsS RX7 49 yJ7_fill_53178 wsJ7_fill_53178) := goodIn_app (goodIn_of _ (by decide +kernel)) ggX7_clear_J7_fill_53178
set_option maxRecDepth 20000 in
theorem ggX7_hasPair_X7_has : GoodIn wsX7_hasPair wsX7_has := goodIn_r _ [5, 6, 7, 8, 9, 10, 11, 12, 13, 14, 15, 16, 17, 18] (by decide +kernel) (by decide +kernel)
set_option maxRecDepth 20000 in
theorem gX7_hasPair_X7_has : GoodIn wsX7_hasPair (wsV RX7 61 RX7 yX7_has wsX7_has) := goodIn_app (goodIn_of _ (by decide +kernel)) ggX7_hasPair_X7_has
set_option maxRecDepth 20000 in
theorem ggX9_init_X3_init : GoodIn wsX9_init wsX3_init := goodIn_r _ [34, 35, 2, 3, 36, 37, 38, 39, 40, 41, 42, 43, 44, 45, 46, 47, 48, 29, 49, 50, 51, 52, 53, 54, 55, 56, 57, 58, 59, 60, 61, 62, 63, 64, 65, 66, 67, 199, 200, 201, 202, 203, 204, 205, 206, 207, 208, 209, 210, 141, 142, 143, 144, 145, 146, 147, 148, 149, 150, 211, 212, 213, 214, 215, 216, 217, 218, 219, 220] (by decide +kernel) (by decide +kernel)
set_option maxRecDepth 20000 in
theorem gX9_init_X3_init_n15 : GoodIn wsX9_init (wsX3_init) := ggX9_init_X3_init
set_option maxRecDepth 20000 in
theorem ggX9_init_X6_init : GoodIn wsX9_init wsX6_init := goodIn_r _ [69, 70, 2, 3, 71, 37, 38, 72, 73, 41, 42, 74, 75, 26, 27, 76, 77, 78, 79, 80, 29, 81, 82, 45, 46, 47, 48, 49, 50, 51, 52, 53, 54, 55, 56, 57, 58, 59, 60, 61, 62, 63, 64, 65, 66, 67, 83, 84, 85, 86, 87, 88, 89, 90, 91, 92, 93, 94, 95, 96, 97, 98, 99, 199, 200, 201, 202, 203, 204, 205, 206, 207, 208, 209, 210, 151, 152, 153, 154, 155, 156, 157, 158, 211, 212, 213, 214, 215, 216, 217, 218, 219, 220, 187, 188, 189, 190, 191, 192, 193, 194, 221, 222, 223, 224, 225] (by decide +kernel) (by decide +kernel)
set_option maxRecDepth 20000 in
theorem gX9_init_X6_init_n22 : GoodIn wsX9_init (wsX6_init) := ggX9_init_X6_init
set_option maxRecDepth 20000 in
theorem ggX9_init_X4_init : GoodIn wsX9_init wsX4_init := goodIn_r _ [101, 102, 2, 3, 29, 103, 104, 105, 106, 107, 108, 109, 110, 111, 112, 113, 114, 159, 160, 161, 162, 163, 164, 165, 166, 167, 168, 169, 170, 171, 172, 173, 174, 175] (by decide +kernel) (by decide +kernel)
set_option maxRecDepth 20000 in
theorem gX9_init_X4_init_n39 : GoodIn wsX9_init (wsX4_init) := ggX9_init_X4_init
set_option maxRecDepth 20000 in
theorem ggX9_init_X8_init : GoodIn wsX9_init wsX8_init := goodIn_r _ [116, 117, 2, 3, 29, 118, 119, 120, 121, 122, 123, 124, 125, 176, 177, 178, 179, 180, 181, 182, 183, 184, 185, 186] (by decide +kernel) (by decide +kernel)
set_option maxRecDepth 20000 in
theorem gX9_init_X8_init_n46 : GoodIn wsX9_init (wsX8_init) := ggX9_init_X8_init
set_option maxRecDepth 20000 in
theorem ggX9_init_X1_init : GoodIn wsX9_init wsX1_init := goodIn_r _ [84, 85, 2, 3, 29, 86, 87, 88, 89, 90, 91, 92, 187, 188, 189, 190, 191, 192, 193, 194] (by decide +kernel) (by decide +kernel)
set_option maxRecDepth 20000 in
theorem gX9_init_X1_init_n53 : GoodIn wsX9_init (wsX1_init) := ggX9_init_X1_init
set_option maxRecDepth 20000 in
theorem ggX9_init_X5_init : GoodIn wsX9_init wsX5_init := goodIn_r _ [127, 128, 2, 3, 129, 130, 195, 196, 197, 198] (by decide +kernel) (by decide +kernel)
set_option maxRecDepth 20000 in
theorem gX9_init_X5_init_n62 : GoodIn wsX9_init (wsX5_init) := ggX9_init_X5_init
set_option maxRecDepth 20000 in
theorem ggX9_feed_X9_feedNumber : GoodIn wsX9_feed wsX9_feedNumber := goodIn_r _ [6, 1, 7, 8, 9, 10, 11, 12, 13, 14, 15, 16, 17] (by decide +kernel) (by decide +kernel)
set_option maxRecDepth 20000 in
theorem gX9_feed_X9_feedNumber : GoodIn wsX9_feed (wsV RX9 67 RX9 yX9_feedNumber wsX9_feedNumber) := goodIn_app (goodIn_of _ (by decide +kernel)) ggX9_feed_X9_feedNumber
set_option maxRecDepth 20000 in
theorem ggX9_town_X3_read : GoodIn wsX9_town wsX3_read := goodIn_r _ [14, 15, 16, 17, 18, 19, 20, 21, 22, 23, 24, 25, 26, 27, 28, 29, 30, 31, 32, 33, 34, 35, 36, 37, 38, 39, 40, 41, 42, 43, 44, 45, 46, 47, 48, 49, 13, 50, 51, 52, 53, 54, 55, 56, 57, 58, 59, 60, 61, 62, 63, 64, 65, 66, 67, 68, 69, 70, 71, 72, 73, 74, 75, 76, 77, 78, 79, 80, 81, 82, 83, 84, 85, 86, 87, 88, 89, 90, 91, 92, 93, 94, 95, 96, 97, 98, 99, 100, 101, 102, 103, 104, 105, 106, 107, 108, 109, 110, 111, 112, 113, 114, 115, 116, 117, 118, 119, 120, 121, 122, 123, 124, 125, 126, 127, 128, 129, 130, 131, 132, 133, 134, 135, 136, 137, 138, 139, 140, 141, 142, 143, 144, 145, 146, 147, 148, 149, 150, 151, 152, 153, 154, 155, 156, 157, 158, 159, 160, 161, 162, 163, 164, 165, 166, 167, 168, 169, 170, 171, 172, 173, 174, 175, 176, 177, 178, 248, 249, 250, 251, 252, 253, 254, 255, 256, 257, 266, 267, 268, 269, 270, 271, 272, 273, 274, 275, 276, 277, 278, 279, 280, 281, 282, 283, 284, 285, 286, 287] (by decide +kernel) (by decide +kernel)
set_option maxRecDepth 20000 in
theorem gX9_town_X3_read : GoodIn wsX9_town (wsV RX9 71 RX3 yX3_read wsX3_read) := goodIn_app (goodIn_of _ (by decide +kernel)) ggX9_town_X3_read
set_option maxRecDepth 20000 in
theorem ggX9_town_X6_begin : GoodIn wsX9_town wsX6_begin := goodIn_r _ [183, 184, 185, 186, 187, 188, 189, 190, 191, 192, 193, 194, 195, 196, 197, 198, 199, 30, 200, 32, 33, 34, 201, 202, 203, 204, 205, 206, 207, 208, 209, 35, 210, 211, 212, 43, 213, 45, 46, 214, 215, 216, 217, 218, 219, 150, 220, 221, 222, 223, 224, 225, 226, 227, 228, 37, 38, 39, 258, 259, 260, 261, 262, 263, 264, 265, 288, 289, 290, 291, 292, 266, 267, 268, 269, 270, 271, 272, 273, 274, 275, 276, 277, 278, 279, 280, 281, 282, 283, 284, 285, 286, 287, 293, 294, 295, 296, 297, 298, 299, 300] (by decide +kernel) (by decide +kernel)
set_option maxRecDepth 20000 in
theorem gX9_town_X6_begin : GoodIn wsX9_town (wsV RX9 86 RX6 yX6_begin wsX6_begin) := goodIn_app (goodIn_of _ (by decide +kernel)) ggX9_town_X6_begin
set_option maxRecDepth 20000 in
theorem ggX9_town_X9_forget : GoodIn wsX9_town wsX9_forget := goodIn_r _ [233, 234, 235, 236, 237, 238, 239, 240, 241, 242, 243, 244, 245, 246, 247, 301, 302, 303, 304, 305, 306, 307, 308, 309, 310, 311, 312, 313, 314, 315, 316, 317, 318, 319, 320, 321, 322, 323, 324, 325, 326, 327, 328] (by decide +kernel) (by decide +kernel)
set_option maxRecDepth 20000 in
theorem gX9_town_X9_forget : GoodIn wsX9_town (wsV RX9 90 RX9 yX9_forget wsX9_forget) := goodIn_app (goodIn_of _ (by decide +kernel)) ggX9_town_X9_forget
set_option maxRecDepth 20000 in
theorem ggX9_days_X9_forget : GoodIn wsX9_days wsX9_forget := goodIn_r _ [7, 8, 9, 10, 11, 12, 13, 14, 15, 16, 17, 18, 19, 20, 21, 30, 31, 32, 33, 34, 35, 36, 37, 38, 39, 40, 41, 42, 43, 44, 45, 46, 47, 48, 49, 50, 51, 52, 53, 54, 55, 56, 57] (by decide +kernel) (by decide +kernel)
set_option maxRecDepth 20000 in
theorem gX9_days_X9_forget : GoodIn wsX9_days (wsV RX9 90 RX9 yX9_forget wsX9_forget) := goodIn_app (goodIn_of _ (by decide +kernel)) ggX9_days_X9_forget
set_option maxRecDepth 20000 in
theorem ggX9_bars_X9_isDeed : GoodIn wsX9_bars wsX9_isDeed := goodIn_r _ [6, 1, 7, 8, 9, 10, 11, 12, 13, 14, 15, 16, 17, 58, 59, 60, 61, 62, 63, 64, 65, 66, 67, 68, 69, 70, 71, 72, 73, 74, 75, 76, 77, 78, 79, 80, 81, 82, 83, 84, 85, 86, 87] (by decide +kernel) (by decide +kernel)
set_option maxRecDepth 20000 in
theorem gX9_bars_X9_isDeed : GoodIn wsX9_bars (wsV RX9 105 RX9 yX9_isDeed wsX9_isDeed) := goodIn_app (goodIn_of _ (by decide +kernel)) ggX9_bars_X9_isDeed
set_option maxRecDepth 20000 in
theorem ggX9_does_X9_isDeed : GoodIn wsX9_does wsX9_isDeed := goodIn_r _ [7, 1, 8, 9, 10, 11, 12, 13, 14, 15, 16, 17, 18, 163, 164, 165, 166, 167, 168, 169, 170, 171, 172, 173, 174, 175, 176, 177, 178, 179, 180, 181, 182, 183, 184, 185, 186, 187, 188, 189, 190, 191, 192] (by decide +kernel) (by decide +kernel)
set_option maxRecDepth 20000 in
theorem gX9_does_X9_isDeed : GoodIn wsX9_does (wsV RX9 105 RX9 yX9_isDeed wsX9_isDeed) := goodIn_app (goodIn_of _ (by decide +kernel)) ggX9_does_X9_isDeed
set_option maxRecDepth 20000 in
theorem ggX9_does_X9_forget : GoodIn wsX9_does wsX9_forget := goodIn_r _ [68, 69, 70, 71, 72, 163, 164, 165, 166, 167, 168, 169, 170, 171, 172, 198, 199, 200, 201, 202, 203, 204, 205, 206, 207, 208, 209, 210, 211, 212, 213, 214, 215, 216, 217, 218, 219, 220, 221, 222, 223, 224, 225] (by decide +kernel) (by decide +kernel)
set_option maxRecDepth 20000 in
theorem gX9_does_X9_forget : GoodIn wsX9_does (wsV RX9 90 RX9 yX9_forget wsX9_forget) := goodIn_app (goodIn_of _ (by decide +kernel)) ggX9_does_X9_forget
set_option maxRecDepth 20000 in
theorem ggX9_meet_X7_hasPair : GoodIn wsX9_meet wsX7_hasPair := goodIn_r _ [8, 9, 10, 11, 7, 12, 13, 70, 71, 72, 73, 74, 75, 76, 77, 78, 79, 80, 81] (by decide +kernel) (by decide +kernel)
set_option maxRecDepth 20000 in
theorem gX9_meet_X7_hasPair : GoodIn wsX9_meet (wsV RX9 126 RX7 yX7_hasPair wsX7_hasPair) := goodIn_app (goodIn_of _ (by decide +kernel)) ggX9_meet_X7_hasPair
set_option maxRecDepth 20000 in
theorem ggX9_meet_X9_forget : GoodIn wsX9_meet wsX9_forget := goodIn_r _ [24, 25, 26, 27, 28, 52, 53, 54, 55, 56, 57, 58, 59, 60, 61, 87, 88, 89, 90, 91, 92, 93, 94, 95, 96, 97, 98, 99, 100, 101, 102, 103, 104, 105, 106, 107, 108, 109, 110, 111, 112, 113, 114] (by decide +kernel) (by decide +kernel)
set_option maxRecDepth 20000 in
theorem gX9_meet_X9_forget : GoodIn wsX9_meet (wsV RX9 90 RX9 yX9_forget wsX9_forget) := goodIn_app (goodIn_of _ (by decide +kernel)) ggX9_meet_X9_forget
set_option maxRecDepth 20000 in
theorem ggX9_done_X9_isSlot : GoodIn wsX9_done wsX9_isSlot := goodIn_r _ [7] (by decide +kernel) (by decide +kernel)
set_option maxRecDepth 20000 in
theorem gX9_done_X9_isSlot : GoodIn wsX9_done (va_wsS RX9 134 yX9_isSlot wsX9_isSlot) := goodIn_app (goodIn_of _ (by decide +kernel)) ggX9_done_X9_isSlot
set_option maxRecDepth 20000 in
theorem ggX9_done_X9_meet : GoodIn wsX9_done wsX9_meet := goodIn_r _ [19, 20, 21, 22, 23, 24, 25, 26, 27, 28, 29, 30, 31, 32, 33, 34, 35, 36, 37, 38, 39, 40, 41, 6, 42, 43, 44, 45, 46, 47, 48, 49, 50, 51, 52, 53, 54, 55, 56, 57, 58, 59, 60, 61, 62, 63, 64, 65, 66, 67, 68, 69, 189, 190, 191, 192, 193, 194, 195, 196, 197, 198, 203, 204, 205, 206, 207, 208, 209, 210, 211, 212, 213, 214, 215, 216, 217, 218, 219, 220, 221, 222, 223, 224, 225, 226, 227, 228, 229, 230, 231, 232, 233, 234, 235, 236, 237, 238, 239, 240, 241, 242, 243, 244, 245, 246, 247, 248, 249, 250, 251, 252, 253, 254, 255] (by decide +kernel) (by decide +kernel)
set_option maxRecDepth 20000 in
theorem gX9_done_X9_meet : GoodIn wsX9_done (wsV RX9 149 RX9 yX9_meet wsX9_meet) := goodIn_app (goodIn_of _ (by decide +kernel)) ggX9_done_X9_meet
set_option maxRecDepth 20000 in
theorem ggX9_done_X9_does : GoodIn wsX9_done wsX9_does := goodIn_r _ [73, 20, 22, 74, 75, 76, 6, 77, 21, 23, 24, 25, 26, 27, 28, 29, 30, 31, 32, 78, 79, 80, 50, 81, 82, 54, 83, 84, 85, 86, 87, 88, 89, 90, 91, 92, 52, 93, 55, 56, 57, 58, 94, 95, 96, 97, 98, 99, 100, 101, 102, 103, 104, 105, 106, 107, 108, 109, 110, 33, 34, 35, 36, 37, 38, 39, 40, 41, 42, 43, 44, 45, 46, 111, 112, 113, 114, 115, 116, 117, 53, 118, 119, 120, 121, 122, 123, 124, 125, 126, 127, 128, 129, 130, 131, 132, 133, 134, 135, 136, 137, 138, 139, 140, 141, 142, 143, 144, 145, 146, 147, 148, 149, 150, 151, 152, 153, 154, 155, 156, 157, 158, 159, 160, 161, 162, 163, 164, 165, 166, 167, 168, 169, 170, 171, 172, 173, 174, 175, 176, 177, 178, 179, 180, 181, 182, 183, 184, 185, 186, 187, 188, 62, 63, 64, 65, 66, 67, 68, 69, 59, 60, 61, 189, 190, 191, 192, 193, 194, 195, 196, 197, 198, 203, 204, 205, 206, 207, 208, 209, 210, 211, 212, 213, 214, 215, 216, 217, 218, 219, 220, 221, 222, 223, 224, 225, 226, 227, 228, 229, 230, 231, 232, 233, 234, 235, 236, 237, 238, 239, 240, 241, 242, 243, 244, 245, 246, 247, 248, 249, 250, 251, 252, 253, 254, 255, 256, 257, 258, 259, 260, 261, 262, 263, 264, 265, 266, 267, 268, 269, 270, 271, 272, 273] (by decide +kernel) (by decide +kernel)
set_option maxRecDepth 20000 in
theorem gX9_done_X9_does : GoodIn wsX9_done (wsV RX9 152 RX9 yX9_does wsX9_does) := goodIn_app (goodIn_of _ (by decide +kernel)) ggX9_done_X9_does
set_option maxRecDepth 20000 in
theorem ggX9_known_X7_hasPair : GoodIn wsX9_known wsX7_hasPair := goodIn_r _ [7, 8, 9, 10, 6, 11, 12, 37, 38, 39, 40, 41, 42, 43, 44, 45, 46, 47, 48] (by decide +kernel) (by decide +kernel)
set_option maxRecDepth 20000 in
theorem gX9_known_X7_hasPair : GoodIn wsX9_known (wsV RX9 126 RX7 yX7_hasPair wsX7_hasPair) := goodIn_app (goodIn_of _ (by decide +kernel)) ggX9_known_X7_hasPair
set_option maxRecDepth 20000 in
theorem ggX9_debts_X7_has : GoodIn wsX9_debts wsX7_has := goodIn_r _ [9, 10, 37, 38, 39, 40, 41, 42, 43, 44, 45, 46, 47, 48] (by decide +kernel) (by decide +kernel)
set_option maxRecDepth 20000 in
theorem gX9_debts_X7_has : GoodIn wsX9_debts (wsV RX9 158 RX7 yX7_has wsX7_has) := goodIn_app (goodIn_of _ (by decide +kernel)) ggX9_debts_X7_has
set_option maxRecDepth 20000 in
theorem ggX9_debt_X7_has : GoodIn wsX9_debt wsX7_has := goodIn_r _ [12, 13, 48, 49, 50, 51, 52, 53, 54, 55, 56, 57, 58, 59] (by decide +kernel) (by decide +kernel)
set_option maxRecDepth 20000 in
theorem gX9_debt_X7_has : GoodIn wsX9_debt (wsV RX9 158 RX7 yX7_has wsX7_has) := goodIn_app (goodIn_of _ (by decide +kernel)) ggX9_debt_X7_has
set_option maxRecDepth 20000 in
theorem ggX9_slights_X7_has : GoodIn wsX9_slights wsX7_has := goodIn_r _ [9, 10, 37, 38, 39, 40, 41, 42, 43, 44, 45, 46, 47, 48] (by decide +kernel) (by decide +kernel)
set_option maxRecDepth 20000 in
theorem gX9_slights_X7_has : GoodIn wsX9_slights (wsV RX9 158 RX7 yX7_has wsX7_has) := goodIn_app (goodIn_of _ (by decide +kernel)) ggX9_slights_X7_has
set_option maxRecDepth 20000 in
theorem ggX9_owes_X9_isDeed : GoodIn wsX9_owes wsX9_isDeed := goodIn_r _ [6, 1, 7, 8, 9, 10, 11, 12, 13, 14, 15, 16, 17, 77, 78, 79, 80, 81, 82, 83, 84, 85, 86, 87, 88, 89, 90, 91, 92, 93, 94, 95, 96, 97, 98, 99, 100, 101, 102, 103, 104, 105, 106] (by decide +kernel) (by decide +kernel)
set_option maxRecDepth 20000 in
theorem gX9_owes_X9_isDeed : GoodIn wsX9_owes (wsV RX9 105 RX9 yX9_isDeed wsX9_isDeed) := goodIn_app (goodIn_of _ (by decide +kernel)) ggX9_owes_X9_isDeed
set_option maxRecDepth 20000 in
theorem ggX9_worth_X9_isOuting : GoodIn wsX9_worth wsX9_isOuting := goodIn_r _ [8, 2, 9, 10, 11, 12, 13, 14, 15, 16, 120, 121, 122, 123, 124, 125, 126, 127, 128, 129, 147, 148, 149, 150, 151, 152, 153, 154, 155, 156, 157, 158, 159, 160, 161, 162, 163, 164, 165, 166] (by decide +kernel) (by decide +kernel)
set_option maxRecDepth 20000 in
theorem gX9_worth_X9_isOuting : GoodIn wsX9_worth (wsV RX9 191 RX9 yX9_isOuting wsX9_isOuting) := goodIn_app (goodIn_of _ (by decide +kernel)) ggX9_worth_X9_isOuting
set_option maxRecDepth 20000 in
theorem ggX9_round_X9_isOuting : GoodIn wsX9_round wsX9_isOuting := goodIn_r _ [9, 2, 10, 11, 12, 13, 14, 15, 16, 17, 121, 122, 123, 124, 125, 126, 127, 128, 129, 130, 148, 149, 150, 151, 152, 153, 154, 155, 156, 157, 158, 159, 160, 161, 162, 163, 164, 165, 166, 167] (by decide +kernel) (by decide +kernel)
set_option maxRecDepth 20000 in
theorem gX9_round_X9_isOuting : GoodIn wsX9_round (wsV RX9 191 RX9 yX9_isOuting wsX9_isOuting) := goodIn_app (goodIn_of _ (by decide +kernel)) ggX9_round_X9_isOuting
set_option maxRecDepth 20000 in
theorem ggX9_over_X9_isOuting : GoodIn wsX9_over wsX9_isOuting := goodIn_r _ [8, 2, 9, 10, 11, 12, 13, 14, 15, 16, 120, 121, 122, 123, 124, 125, 126, 127, 128, 129, 147, 148, 149, 150, 151, 152, 153, 154, 155, 156, 157, 158, 159, 160, 161, 162, 163, 164, 165, 166] (by decide +kernel) (by decide +kernel)
set_option maxRecDepth 20000 in
theorem gX9_over_X9_isOuting : GoodIn wsX9_over (wsV RX9 191 RX9 yX9_isOuting wsX9_isOuting) := goodIn_app (goodIn_of _ (by decide +kernel)) ggX9_over_X9_isOuting
set_option maxRecDepth 20000 in
theorem ggX9_may_X9_isSlot : GoodIn wsX9_may wsX9_isSlot := goodIn_r _ [8] (by decide +kernel) (by decide +kernel)
set_option maxRecDepth 20000 in
theorem gX9_may_X9_isSlot : GoodIn wsX9_may (va_wsS RX9 134 yX9_isSlot wsX9_isSlot) := goodIn_app (goodIn_of _ (by decide +kernel)) ggX9_may_X9_isSlot
set_option maxRecDepth 20000 in
theorem ggX9_may_X9_isOuting : GoodIn wsX9_may wsX9_isOuting := goodIn_r _ [12, 4, 13, 14, 15, 16, 17, 18, 19, 20, 77, 78, 79, 80, 81, 82, 83, 84, 85, 86, 91, 92, 93, 94, 95, 96, 97, 98, 99, 100, 101, 102, 103, 104, 105, 106, 107, 108, 109, 110] (by decide +kernel) (by decide +kernel)
set_option maxRecDepth 20000 in
theorem gX9_may_X9_isOuting : GoodIn wsX9_may (wsV RX9 191 RX9 yX9_isOuting wsX9_isOuting) := goodIn_app (goodIn_of _ (by decide +kernel)) ggX9_may_X9_isOuting
set_option maxRecDepth 20000 in
theorem ggX9_fewest_X7_has : GoodIn wsX9_fewest wsX7_has := goodIn_r _ [8, 9, 124, 125, 126, 127, 128, 129, 130, 131, 132, 133, 134, 135] (by decide +kernel) (by decide +kernel)
set_option maxRecDepth 20000 in
theorem gX9_fewest_X7_has : GoodIn wsX9_fewest (wsV RX9 158 RX7 yX7_has wsX7_has) := goodIn_app (goodIn_of _ (by decide +kernel)) ggX9_fewest_X7_has
set_option maxRecDepth 20000 in
theorem ggX9_lost_X7_has : GoodIn wsX9_lost wsX7_has := goodIn_r _ [8, 9, 88, 89, 90, 91, 92, 93, 94, 95, 96, 97, 98, 99] (by decide +kernel) (by decide +kernel)
set_option maxRecDepth 20000 in
theorem gX9_lost_X7_has : GoodIn wsX9_lost (wsV RX9 158 RX7 yX7_has wsX7_has) := goodIn_app (goodIn_of _ (by decide +kernel)) ggX9_lost_X7_has
set_option maxRecDepth 20000 in
theorem ggX9_soon_X7_hasPair : GoodIn wsX9_soon wsX7_hasPair := goodIn_r _ [9, 10, 11, 12, 8, 13, 14, 102, 103, 104, 105, 106, 107, 108, 109, 110, 111, 112, 113] (by decide +kernel) (by decide +kernel)
set_option maxRecDepth 20000 in
theorem gX9_soon_X7_hasPair : GoodIn wsX9_soon (wsV RX9 126 RX7 yX7_hasPair wsX7_hasPair) := goodIn_app (goodIn_of _ (by decide +kernel)) ggX9_soon_X7_hasPair
set_option maxRecDepth 20000 in
theorem ggX9_path_X7_hasPair : GoodIn wsX9_path wsX7_hasPair := goodIn_r _ [10, 11, 12, 13, 9, 14, 15, 103, 104, 105, 106, 107, 108, 109, 110, 111, 112, 113, 114] (by decide +kernel) (by decide +kernel)
set_option maxRecDepth 20000 in
theorem gX9_path_X7_hasPair : GoodIn wsX9_path (wsV RX9 126 RX7 yX7_hasPair wsX7_hasPair) := goodIn_app (goodIn_of _ (by decide +kernel)) ggX9_path_X7_hasPair
set_option maxRecDepth 20000 in
theorem ggX9_reach_X7_has : GoodIn wsX9_reach wsX7_has := goodIn_r _ [7, 8, 33, 34, 35, 36, 37, 38, 39, 40, 41, 42, 43, 44] (by decide +kernel) (by decide +kernel)
set_option maxRecDepth 20000 in
theorem gX9_reach_X7_has : GoodIn wsX9_reach (wsV RX9 158 RX7 yX7_has wsX7_has) := goodIn_app (goodIn_of _ (by decide +kernel)) ggX9_reach_X7_has
set_option maxRecDepth 20000 in
theorem ggX9_drop_X7_has : GoodIn wsX9_drop wsX7_has := goodIn_r _ [9, 10, 54, 55, 56, 57, 58, 59, 60, 61, 62, 63, 64, 65] (by decide +kernel) (by decide +kernel)
set_option maxRecDepth 20000 in
theorem gX9_drop_X7_has : GoodIn wsX9_drop (wsV RX9 158 RX7 yX7_has wsX7_has) := goodIn_app (goodIn_of _ (by decide +kernel)) ggX9_drop_X7_has
set_option maxRecDepth 20000 in
theorem ggX9_tie_X7_hasPair : GoodIn wsX9_tie wsX7_hasPair := goodIn_r _ [7, 8, 9, 10, 6, 11, 12, 45, 46, 47, 48, 49, 50, 51, 52, 53, 54, 55, 56] (by decide +kernel) (by decide +kernel)
set_option maxRecDepth 20000 in
theorem gX9_tie_X7_hasPair : GoodIn wsX9_tie (wsV RX9 126 RX7 yX7_hasPair wsX7_hasPair) := goodIn_app (goodIn_of _ (by decide +kernel)) ggX9_tie_X7_hasPair
set_option maxRecDepth 20000 in
theorem ggX9_rings_X6_followCalls : GoodIn wsX9_rings wsX6_followCalls := goodIn_r _ [8, 9, 10, 11, 12, 13, 14, 40, 41, 42, 43, 44, 45, 46, 47, 60, 61, 62, 63, 64] (by decide +kernel) (by decide +kernel)
set_option maxRecDepth 20000 in
theorem gX9_rings_X6_followCalls : GoodIn wsX9_rings (wsV RX9 237 RX6 yX6_followCalls wsX6_followCalls) := goodIn_app (goodIn_of _ (by decide +kernel)) ggX9_rings_X6_followCalls
set_option maxRecDepth 20000 in
theorem ggX9_ring_X7_has : GoodIn wsX9_ring wsX7_has := goodIn_r _ [7, 8, 49, 50, 51, 52, 53, 54, 55, 56, 57, 58, 59, 60] (by decide +kernel) (by decide +kernel)
set_option maxRecDepth 20000 in
theorem gX9_ring_X7_has : GoodIn wsX9_ring (wsV RX9 158 RX7 yX7_has wsX7_has) := goodIn_app (goodIn_of _ (by decide +kernel)) ggX9_ring_X7_has
set_option maxRecDepth 20000 in
theorem ggX9_ring_X6_followCalls : GoodIn wsX9_ring wsX6_followCalls := goodIn_r _ [13, 14, 15, 16, 17, 18, 19, 41, 42, 43, 44, 45, 46, 47, 48, 61, 62, 63, 64, 65] (by decide +kernel) (by decide +kernel)
set_option maxRecDepth 20000 in
theorem gX9_ring_X6_followCalls : GoodIn wsX9_ring (wsV RX9 237 RX6 yX6_followCalls wsX6_followCalls) := goodIn_app (goodIn_of _ (by decide +kernel)) ggX9_ring_X6_followCalls
set_option maxRecDepth 20000 in
theorem ggX9_house_X7_has : GoodIn wsX9_house wsX7_has := goodIn_r _ [16, 17, 49, 50, 51, 52, 53, 54, 55, 56, 57, 58, 59, 60] (by decide +kernel) (by decide +kernel)
set_option maxRecDepth 20000 in
theorem gX9_house_X7_has : GoodIn wsX9_house (wsV RX9 158 RX7 yX7_has wsX7_has) := goodIn_app (goodIn_of _ (by decide +kernel)) ggX9_house_X7_has
set_option maxRecDepth 20000 in
theorem ggX9_beside_X9_isImage : GoodIn wsX9_beside wsX9_isImage := goodIn_r _ [10] (by decide +kernel) (by decide +kernel)
set_option maxRecDepth 20000 in
theorem gX9_beside_X9_isImage : GoodIn wsX9_beside (va_wsS RX9 271 yX9_isImage wsX9_isImage) := goodIn_app (goodIn_of _ (by decide +kernel)) ggX9_beside_X9_isImage
set_option maxRecDepth 20000 in
theorem ggX9_count_X1_overdue : GoodIn wsX9_count wsX1_overdue := goodIn_r _ [19, 20, 21, 69, 70, 71, 72, 73, 74, 75, 76] (by decide +kernel) (by decide +kernel)
set_option maxRecDepth 20000 in
theorem gX9_count_X1_overdue : GoodIn wsX9_count (wsV RX9 285 RX1 yX1_overdue wsX1_overdue) := goodIn_app (goodIn_of _ (by decide +kernel)) ggX9_count_X1_overdue
set_option maxRecDepth 20000 in
theorem ggX9_count_X9_filledSlots : GoodIn wsX9_count wsX9_filledSlots := goodIn_r _ [26, 27, 28, 29, 30, 31, 32, 33, 34, 35, 36, 37, 38, 82, 83, 84, 85] (by decide +kernel) (by decide +kernel)
set_option maxRecDepth 20000 in
theorem gX9_count_X9_filledSlots : GoodIn wsX9_count (wsV RX9 298 RX9 yX9_filledSlots wsX9_filledSlots) := goodIn_app (goodIn_of _ (by decide +kernel)) ggX9_count_X9_filledSlots
set_option maxRecDepth 20000 in
theorem ggX9_keep_X9_isImage : GoodIn wsX9_keep wsX9_isImage := goodIn_r _ [9] (by decide +kernel) (by decide +kernel)
set_option maxRecDepth 20000 in
theorem gX9_keep_X9_isImage : GoodIn wsX9_keep (va_wsS RX9 271 yX9_isImage wsX9_isImage) := goodIn_app (goodIn_of _ (by decide +kernel)) ggX9_keep_X9_isImage
set_option maxRecDepth 20000 in
theorem ggX9_keep_X6_init : GoodIn wsX9_keep wsX6_init := goodIn_r _ [11, 12, 13, 14, 15, 16, 17, 18, 19, 20, 21, 22, 23, 24, 25, 26, 27, 28, 29, 30, 31, 32, 33, 34, 35, 36, 37, 38, 39, 40, 41, 42, 43, 44, 45, 46, 47, 48, 49, 50, 51, 52, 53, 54, 55, 56, 57, 58, 59, 60, 61, 62, 63, 64, 65, 66, 67, 68, 69, 70, 71, 72, 73, 128, 129, 130, 131, 132, 133, 134, 135, 136, 137, 138, 139, 120, 121, 122, 123, 124, 125, 126, 127, 140, 141, 142, 143, 144, 145, 146, 147, 148, 149, 150, 151, 152, 153, 154, 155, 156, 157, 158, 159, 160, 161, 162] (by decide +kernel) (by decide +kernel)
set_option maxRecDepth 20000 in
theorem gX9_keep_X6_init_n22 : GoodIn wsX9_keep (wsX6_init) := ggX9_keep_X6_init
set_option maxRecDepth 20000 in
theorem ggX9_keep_X6_copy : GoodIn wsX9_keep wsX6_copy := goodIn_r _ [77, 18, 22, 26, 30, 32, 78, 79, 80, 81, 82, 83, 84, 85, 86, 17, 87, 88, 89, 37, 38, 90, 39, 40, 41, 42, 43, 44, 45, 46, 91, 92, 93, 21, 94, 95, 96, 50, 97, 51, 52, 53, 54, 55, 98, 99, 100, 25, 101, 102, 60, 103, 61, 62, 63, 64, 65, 66, 104, 105, 106, 29, 107, 108, 70, 109, 71, 72, 73, 120, 121, 122, 123, 124, 125, 126, 127, 128, 129, 130, 131, 132, 133, 134, 135, 136, 137, 138, 139, 140, 141, 142, 143, 144, 145, 146, 147, 148, 149, 150, 151, 152, 153, 154, 155, 156, 157, 158, 159, 160, 161, 162] (by decide +kernel) (by decide +kernel)
set_option maxRecDepth 20000 in
theorem gX9_keep_X6_copy : GoodIn wsX9_keep (wsV RX9 302 RX6 yX6_copy wsX6_copy) := goodIn_app (goodIn_of _ (by decide +kernel)) ggX9_keep_X6_copy
set_option maxRecDepth 20000 in
theorem ggX9_back_X9_isImage : GoodIn wsX9_back wsX9_isImage := goodIn_r _ [6] (by decide +kernel) (by decide +kernel)
set_option maxRecDepth 20000 in
theorem gX9_back_X9_isImage : GoodIn wsX9_back (va_wsS RX9 271 yX9_isImage wsX9_isImage) := goodIn_app (goodIn_of _ (by decide +kernel)) ggX9_back_X9_isImage
set_option maxRecDepth 20000 in
theorem ggX9_back_X6_copy : GoodIn wsX9_back wsX6_copy := goodIn_r _ [11, 12, 13, 14, 15, 16, 17, 18, 19, 20, 21, 22, 23, 24, 25, 26, 27, 28, 29, 30, 31, 32, 33, 34, 35, 36, 37, 38, 39, 40, 41, 42, 43, 44, 45, 46, 47, 48, 49, 50, 51, 52, 53, 54, 55, 56, 57, 58, 59, 60, 61, 62, 63, 64, 65, 66, 67, 68, 69, 70, 71, 72, 73, 74, 75, 76, 77, 78, 79, 98, 99, 100, 101, 102, 103, 104, 105, 106, 107, 108, 109, 110, 111, 112, 113, 114, 115, 116, 117, 118, 119, 120, 121, 122, 123, 124, 125, 126, 127, 128, 129, 130, 131, 132, 133, 134, 135, 136, 137, 138, 139, 140] (by decide +kernel) (by decide +kernel)
set_option maxRecDepth 20000 in
theorem gX9_back_X6_copy : GoodIn wsX9_back (wsV RX9 302 RX6 yX6_copy wsX6_copy) := goodIn_app (goodIn_of _ (by decide +kernel)) ggX9_back_X6_copy
set_option maxRecDepth 20000 in
theorem ggX9_back_X9_forget : GoodIn wsX9_back wsX9_forget := goodIn_r _ [83, 84, 85, 86, 87, 88, 89, 90, 91, 92, 93, 94, 95, 96, 97, 141, 142, 143, 144, 145, 146, 147, 148, 149, 150, 151, 152, 153, 154, 155, 156, 157, 158, 159, 160, 161, 162, 163, 164, 165, 166, 167, 168] (by decide +kernel) (by decide +kernel)
set_option maxRecDepth 20000 in
theorem gX9_back_X9_forget : GoodIn wsX9_back (wsV RX9 90 RX9 yX9_forget wsX9_forget) := goodIn_app (goodIn_of _ (by decide +kernel)) ggX9_back_X9_forget
set_option maxRecDepth 20000 in
theorem ggX9_row_X9_isSlot : GoodIn wsX9_row wsX9_isSlot := goodIn_r _ [5] (by decide +kernel) (by decide +kernel)
set_option maxRecDepth 20000 in
theorem gX9_row_X9_isSlot : GoodIn wsX9_row (va_wsS RX9 134 yX9_isSlot wsX9_isSlot) := goodIn_app (goodIn_of _ (by decide +kernel)) ggX9_row_X9_isSlot
set_option maxRecDepth 20000 in
theorem ggX9_row_X5_lay : GoodIn wsX9_row wsX5_lay := goodIn_r _ [10, 11, 12, 13, 14, 15, 16, 17, 18, 29, 30, 31, 32] (by decide +kernel) (by decide +kernel)
set_option maxRecDepth 20000 in
theorem gX9_row_X5_lay : GoodIn wsX9_row (wsV RX9 306 RX5 yX5_lay wsX5_lay) := goodIn_app (goodIn_of _ (by decide +kernel)) ggX9_row_X5_lay
set_option maxRecDepth 20000 in
theorem ggX9_write_X9_isSlot : GoodIn wsX9_write wsX9_isSlot := goodIn_r _ [8] (by decide +kernel) (by decide +kernel)
set_option maxRecDepth 20000 in
theorem gX9_write_X9_isSlot : GoodIn wsX9_write (va_wsS RX9 134 yX9_isSlot wsX9_isSlot) := goodIn_app (goodIn_of _ (by decide +kernel)) ggX9_write_X9_isSlot
set_option maxRecDepth 20000 in
theorem ggX9_paste_X9_isSlot : GoodIn wsX9_paste wsX9_isSlot := goodIn_r _ [12] (by decide +kernel) (by decide +kernel)
set_option maxRecDepth 20000 in
theorem gX9_paste_X9_isSlot : GoodIn wsX9_paste (va_wsS RX9 134 yX9_isSlot wsX9_isSlot) := goodIn_app (goodIn_of _ (by decide +kernel)) ggX9_paste_X9_isSlot
set_option maxRecDepth 20000 in
theorem ggX9_isDeed_X7_hasPair : GoodIn wsX9_isDeed wsX7_hasPair := goodIn_r _ [7, 8, 9, 10, 6, 11, 12, 31, 32, 33, 34, 35, 36, 37, 38, 39, 40, 41, 42] (by decide +kernel) (by decide +kernel)
set_option maxRecDepth 20000 in
theorem gX9_isDeed_X7_hasPair : GoodIn wsX9_isDeed (wsV RX9 126 RX7 yX7_hasPair wsX7_hasPair) := goodIn_app (goodIn_of _ (by decide +kernel)) ggX9_isDeed_X7_hasPair
set_option maxRecDepth 20000 in
theorem ggX9_isOuting_X7_has : GoodIn wsX9_isOuting wsX7_has := goodIn_r _ [8, 9, 28, 29, 30, 31, 32, 33, 34, 35, 36, 37, 38, 39] (by decide +kernel) (by decide +kernel)
set_option maxRecDepth 20000 in
theorem gX9_isOuting_X7_has : GoodIn wsX9_isOuting (wsV RX9 158 RX7 yX7_has wsX7_has) := goodIn_app (goodIn_of _ (by decide +kernel)) ggX9_isOuting_X7_has
set_option maxRecDepth 20000 in
theorem ggX10_keep_X10_in : GoodIn wsX10_keep wsX10_in := goodIn_r _ [8] (by decide +kernel) (by decide +kernel)
set_option maxRecDepth 20000 in
theorem gX10_keep_X10_in : GoodIn wsX10_keep (va_wsS RX10 101 yX10_in wsX10_in) := goodIn_app (goodIn_of _ (by decide +kernel)) ggX10_keep_X10_in
set_option maxRecDepth 20000 in
theorem ggX10_back_X10_in : GoodIn wsX10_back wsX10_in := goodIn_r _ [8] (by decide +kernel) (by decide +kernel)
set_option maxRecDepth 20000 in
theorem gX10_back_X10_in : GoodIn wsX10_back (va_wsS RX10 101 yX10_in wsX10_in) := goodIn_app (goodIn_of _ (by decide +kernel)) ggX10_back_X10_in
set_option maxRecDepth 20000 in
theorem ggX10_isHouse_X10_in : GoodIn wsX10_isHouse wsX10_in := goodIn_r _ [5] (by decide +kernel) (by decide +kernel)
set_option maxRecDepth 20000 in
theorem gX10_isHouse_X10_in : GoodIn wsX10_isHouse (va_wsS RX10 101 yX10_in wsX10_in) := goodIn_app (goodIn_of _ (by decide +kernel)) ggX10_isHouse_X10_in
set_option maxRecDepth 20000 in
theorem ggX10_areTwo_X10_isHouse : GoodIn wsX10_areTwo wsX10_isHouse := goodIn_r _ [5, 6, 7, 8, 4, 9, 10, 11, 12, 13, 14, 15, 16, 17, 18, 19, 20, 21, 22, 23, 24, 25, 26, 27, 28, 29, 30, 31, 32, 33, 34, 35, 36, 37, 38, 39, 40, 41, 42, 43, 44, 45, 46, 47, 48, 49, 50] (by decide +kernel) (by decide +kernel)
set_option maxRecDepth 20000 in
theorem gX10_areTwo_X10_isHouse : GoodIn wsX10_areTwo (wsV RX10 105 RX10 yX10_isHouse wsX10_isHouse) := goodIn_app (goodIn_of _ (by decide +kernel)) ggX10_areTwo_X10_isHouse
set_option maxRecDepth 20000 in
theorem ggX10_end_X10_in : GoodIn wsX10_end wsX10_in := goodIn_r _ [5] (by decide +kernel) (by decide +kernel)
set_option maxRecDepth 20000 in
theorem gX10_end_X10_in : GoodIn wsX10_end (va_wsS RX10 101 yX10_in wsX10_in) := goodIn_app (goodIn_of _ (by decide +kernel)) ggX10_end_X10_in
set_option maxRecDepth 20000 in
theorem ggX10_advance_X10_see : GoodIn wsX10_advance wsX10_see := goodIn_r _ [17, 18, 19, 23, 24, 25, 26, 27, 28, 29, 30, 31, 32, 33, 34, 35, 36, 37, 38, 39, 40, 41, 42, 43, 44, 45, 46, 47, 48, 49, 50, 51, 52, 53, 54, 55, 56, 57, 58, 59, 60, 61, 62, 63] (by decide +kernel) (by decide +kernel)
set_option maxRecDepth 20000 in
theorem gX10_advance_X10_see : GoodIn wsX10_advance (wsV RX10 118 RX10 yX10_see wsX10_see) := goodIn_app (goodIn_of _ (by decide +kernel)) ggX10_advance_X10_see
set_option maxRecDepth 20000 in
theorem ggX10_advance_X10_in : GoodIn wsX10_advance wsX10_in := goodIn_r _ [22] (by decide +kernel) (by decide +kernel)
set_option maxRecDepth 20000 in
theorem gX10_advance_X10_in : GoodIn wsX10_advance (va_wsS RX10 101 yX10_in wsX10_in) := goodIn_app (goodIn_of _ (by decide +kernel)) ggX10_advance_X10_in
set_option maxRecDepth 20000 in
theorem ggX10_town_X10_advance : GoodIn wsX10_town wsX10_advance := goodIn_r _ [13, 3, 14, 7, 15, 16, 17, 18, 19, 20, 21, 22, 23, 24, 25, 26, 12, 27, 2, 28, 29, 30, 31, 153, 154, 155, 156, 157, 158, 159, 160, 161, 162, 163, 164, 165, 166, 167, 168, 169, 170, 171, 172, 173, 174, 175, 176, 177, 178, 179, 180, 181, 182, 183, 184, 185, 186, 187, 188, 189, 190, 191, 192, 193] (by decide +kernel) (by decide +kernel)
set_option maxRecDepth 20000 in
theorem gX10_town_X10_advance : GoodIn wsX10_town (wsV RX10 166 RX10 yX10_advance wsX10_advance) := goodIn_app (goodIn_of _ (by decide +kernel)) ggX10_town_X10_advance
set_option maxRecDepth 20000 in
theorem ggX10_town_X10_good : GoodIn wsX10_town wsX10_good := goodIn_r _ [35, 4, 153, 154, 155, 156, 157, 158, 159, 160, 161, 162, 163, 164, 165, 166, 167, 168, 169, 170, 171, 172, 173, 174, 175, 176, 177, 178, 179, 180, 181, 182, 183, 184, 185, 186, 187, 188, 189, 190, 191, 192, 193] (by decide +kernel) (by decide +kernel)
set_option maxRecDepth 20000 in
theorem gX10_town_X10_good : GoodIn wsX10_town (wsV RX10 148 RX10 yX10_good wsX10_good) := goodIn_app (goodIn_of _ (by decide +kernel)) ggX10_town_X10_good
set_option maxRecDepth 20000 in
theorem ggX10_town_X10_ofHouse : GoodIn wsX10_town wsX10_ofHouse := goodIn_r _ [152, 8, 153, 154, 155, 156, 157, 158, 159, 160, 161, 162, 163, 164, 165, 166, 167, 168, 169, 170, 171, 172, 173, 174, 175, 176, 177, 178, 179, 180, 181, 182, 183, 184, 185, 186, 187, 188, 189, 190, 191, 192, 193] (by decide +kernel) (by decide +kernel)
set_option maxRecDepth 20000 in
theorem gX10_town_X10_ofHouse : GoodIn wsX10_town (wsV RX10 286 RX10 yX10_ofHouse wsX10_ofHouse) := goodIn_app (goodIn_of _ (by decide +kernel)) ggX10_town_X10_ofHouse
set_option maxRecDepth 20000 in
theorem ggX10_days_X10_in : GoodIn wsX10_days wsX10_in := goodIn_r _ [6] (by decide +kernel) (by decide +kernel)
set_option maxRecDepth 20000 in
theorem gX10_days_X10_in : GoodIn wsX10_days (va_wsS RX10 101 yX10_in wsX10_in) := goodIn_app (goodIn_of _ (by decide +kernel)) ggX10_days_X10_in
set_option maxRecDepth 20000 in
theorem ggX10_days_X10_today : GoodIn wsX10_days wsX10_today := goodIn_r _ [10, 2, 11, 12, 13, 14, 15, 16, 17, 18, 19, 20, 21, 22, 23, 24, 25, 26, 27, 28, 29, 30, 31, 32, 33, 34, 35, 36, 37, 38, 39, 40, 41, 42, 43, 44, 45, 46, 47, 48, 49, 50, 51] (by decide +kernel) (by decide +kernel)
set_option maxRecDepth 20000 in
theorem gX10_days_X10_today : GoodIn wsX10_days (wsV RX10 291 RX10 yX10_today wsX10_today) := goodIn_app (goodIn_of _ (by decide +kernel)) ggX10_days_X10_today
set_option maxRecDepth 20000 in
theorem ggX10_bars_X10_areTwo : GoodIn wsX10_bars wsX10_areTwo := goodIn_r _ [5, 6, 7, 8, 4, 9, 10, 11, 12, 13, 52, 53, 54, 55, 56, 57, 58, 59, 60, 61, 62, 63, 64, 65, 66, 67, 68, 69, 70, 71, 72, 73, 74, 75, 76, 77, 78, 79, 80, 81, 82, 83, 84, 85, 86, 87, 88, 89, 90, 91, 92] (by decide +kernel) (by decide +kernel)
set_option maxRecDepth 20000 in
theorem gX10_bars_X10_areTwo : GoodIn wsX10_bars (wsV RX10 315 RX10 yX10_areTwo wsX10_areTwo) := goodIn_app (goodIn_of _ (by decide +kernel)) ggX10_bars_X10_areTwo
set_option maxRecDepth 20000 in
theorem ggX10_known_X10_areTwo : GoodIn wsX10_known wsX10_areTwo := goodIn_r _ [5, 6, 7, 8, 4, 9, 10, 11, 12, 13, 21, 22, 23, 24, 25, 26, 27, 28, 29, 30, 31, 32, 33, 34, 35, 36, 37, 38, 39, 40, 41, 42, 43, 44, 45, 46, 47, 48, 49, 50, 51, 52, 53, 54, 55, 56, 57, 58, 59, 60, 61] (by decide +kernel) (by decide +kernel)
set_option maxRecDepth 20000 in
theorem gX10_known_X10_areTwo : GoodIn wsX10_known (wsV RX10 315 RX10 yX10_areTwo wsX10_areTwo) := goodIn_app (goodIn_of _ (by decide +kernel)) ggX10_known_X10_areTwo
set_option maxRecDepth 20000 in
theorem ggX10_does_X10_areTwo : GoodIn wsX10_does wsX10_areTwo := goodIn_r _ [6, 7, 8, 9, 5, 10, 1, 11, 12, 13, 107, 108, 109, 110, 111, 112, 113, 114, 115, 116, 117, 118, 119, 120, 121, 122, 123, 124, 125, 126, 127, 128, 129, 130, 131, 132, 133, 134, 135, 136, 137, 138, 139, 140, 141, 142, 143, 144, 145, 146, 147] (by decide +kernel) (by decide +kernel)
set_option maxRecDepth 20000 in
theorem gX10_does_X10_areTwo : GoodIn wsX10_does (wsV RX10 315 RX10 yX10_areTwo wsX10_areTwo) := goodIn_app (goodIn_of _ (by decide +kernel)) ggX10_does_X10_areTwo
set_option maxRecDepth 20000 in
theorem ggX10_meet_X10_areTwo : GoodIn wsX10_meet wsX10_areTwo := goodIn_r _ [6, 7, 8, 9, 5, 10, 1, 11, 12, 13, 84, 85, 86, 87, 88, 89, 90, 91, 92, 93, 94, 95, 96, 97, 98, 99, 100, 101, 102, 103, 104, 105, 106, 107, 108, 109, 110, 111, 112, 113, 114, 115, 116, 117, 118, 119, 120, 121, 122, 123, 124] (by decide +kernel) (by decide +kernel)
set_option maxRecDepth 20000 in
theorem gX10_meet_X10_areTwo : GoodIn wsX10_meet (wsV RX10 315 RX10 yX10_areTwo wsX10_areTwo) := goodIn_app (goodIn_of _ (by decide +kernel)) ggX10_meet_X10_areTwo
set_option maxRecDepth 20000 in
theorem ggX10_done_X10_isSlot : GoodIn wsX10_done wsX10_isSlot := goodIn_r _ [8, 9, 10, 11, 7, 12] (by decide +kernel) (by decide +kernel)
set_option maxRecDepth 20000 in
theorem gX10_done_X10_isSlot : GoodIn wsX10_done (va_wsS RX10 371 yX10_isSlot wsX10_isSlot) := goodIn_app (goodIn_of _ (by decide +kernel)) ggX10_done_X10_isSlot
set_option maxRecDepth 20000 in
theorem ggX10_done_X10_in : GoodIn wsX10_done wsX10_in := goodIn_r _ [12] (by decide +kernel) (by decide +kernel)
set_option maxRecDepth 20000 in
theorem gX10_done_X10_in : GoodIn wsX10_done (va_wsS RX10 101 yX10_in wsX10_in) := goodIn_app (goodIn_of _ (by decide +kernel)) ggX10_done_X10_in
set_option maxRecDepth 20000 in
theorem ggX10_done_X10_meet : GoodIn wsX10_done wsX10_meet := goodIn_r _ [16, 17, 18, 19, 20, 7, 21, 22, 23, 24, 25, 10, 11, 12, 26, 27, 28, 29, 30, 31, 32, 33, 34, 35, 36, 37, 38, 39, 40, 41, 42, 43, 44, 45, 46, 47, 48, 49, 50, 51, 52, 53, 54, 55, 56, 57, 58, 59, 60, 61, 62, 63, 64, 65, 66, 67, 68, 69, 70, 71, 72, 73, 74, 75, 76, 77, 78, 79, 80, 81, 82, 83, 84, 85, 86, 87, 88, 89, 90, 91, 92, 93, 94, 95, 122, 123, 124, 125, 126, 127, 128, 129, 130, 131, 132, 133, 134, 135, 136, 137, 138, 139, 140, 141, 142, 143, 144, 145, 146, 147, 148, 149, 150, 151, 152, 153, 154, 155, 156, 157, 158, 159, 160, 161, 162] (by decide +kernel) (by decide +kernel)
set_option maxRecDepth 20000 in
theorem gX10_done_X10_meet : GoodIn wsX10_done (wsV RX10 378 RX10 yX10_meet wsX10_meet) := goodIn_app (goodIn_of _ (by decide +kernel)) ggX10_done_X10_meet
set_option maxRecDepth 20000 in
theorem ggX10_done_X10_does : GoodIn wsX10_done wsX10_does := goodIn_r _ [99, 17, 18, 19, 20, 7, 21, 22, 23, 24, 25, 10, 11, 12, 100, 101, 102, 9, 103, 104, 105, 106, 37, 38, 39, 40, 107, 108, 109, 110, 70, 71, 72, 73, 26, 27, 28, 29, 30, 31, 32, 111, 112, 113, 114, 115, 116, 117, 118, 119, 120, 121, 33, 34, 35, 36, 41, 42, 43, 44, 45, 46, 47, 48, 49, 50, 51, 52, 53, 54, 55, 56, 57, 58, 59, 60, 61, 62, 63, 64, 65, 66, 67, 68, 69, 74, 75, 76, 77, 78, 79, 80, 81, 82, 83, 84, 85, 86, 87, 88, 89, 90, 91, 92, 93, 94, 95, 122, 123, 124, 125, 126, 127, 128, 129, 130, 131, 132, 133, 134, 135, 136, 137, 138, 139, 140, 141, 142, 143, 144, 145, 146, 147, 148, 149, 150, 151, 152, 153, 154, 155, 156, 157, 158, 159, 160, 161, 162] (by decide +kernel) (by decide +kernel)
set_option maxRecDepth 20000 in
theorem gX10_done_X10_does : GoodIn wsX10_done (wsV RX10 381 RX10 yX10_does wsX10_does) := goodIn_app (goodIn_of _ (by decide +kernel)) ggX10_done_X10_does
set_option maxRecDepth 20000 in
theorem ggX10_debts_X10_isHouse : GoodIn wsX10_debts wsX10_isHouse := goodIn_r _ [5, 6, 7, 8, 4, 9, 18, 19, 20, 21, 22, 23, 24, 25, 26, 27, 28, 29, 30, 31, 32, 33, 34, 35, 36, 37, 38, 39, 40, 41, 42, 43, 44, 45, 46, 47, 48, 49, 50, 51, 52, 53, 54, 55, 56, 57, 58] (by decide +kernel) (by decide +kernel)
set_option maxRecDepth 20000 in
theorem gX10_debts_X10_isHouse : GoodIn wsX10_debts (wsV RX10 105 RX10 yX10_isHouse wsX10_isHouse) := goodIn_app (goodIn_of _ (by decide +kernel)) ggX10_debts_X10_isHouse
set_option maxRecDepth 20000 in
theorem ggX10_debt_X10_isHouse : GoodIn wsX10_debt wsX10_isHouse := goodIn_r _ [6, 7, 8, 9, 5, 10, 19, 20, 21, 22, 23, 24, 25, 26, 27, 28, 29, 30, 31, 32, 33, 34, 35, 36, 37, 38, 39, 40, 41, 42, 43, 44, 45, 46, 47, 48, 49, 50, 51, 52, 53, 54, 55, 56, 57, 58, 59] (by decide +kernel) (by decide +kernel)
set_option maxRecDepth 20000 in
theorem gX10_debt_X10_isHouse : GoodIn wsX10_debt (wsV RX10 105 RX10 yX10_isHouse wsX10_isHouse) := goodIn_app (goodIn_of _ (by decide +kernel)) ggX10_debt_X10_isHouse
set_option maxRecDepth 20000 in
theorem ggX10_debt_X10_in : GoodIn wsX10_debt wsX10_in := goodIn_r _ [10] (by decide +kernel) (by decide +kernel)
set_option maxRecDepth 20000 in
theorem gX10_debt_X10_in : GoodIn wsX10_debt (va_wsS RX10 101 yX10_in wsX10_in) := goodIn_app (goodIn_of _ (by decide +kernel)) ggX10_debt_X10_in
set_option maxRecDepth 20000 in
theorem ggX10_slights_X10_isHouse : GoodIn wsX10_slights wsX10_isHouse := goodIn_r _ [5, 6, 7, 8, 4, 9, 22, 23, 24, 25, 26, 27, 28, 29, 30, 31, 32, 33, 34, 35, 36, 37, 38, 39, 40, 41, 42, 43, 44, 45, 46, 47, 48, 49, 50, 51, 52, 53, 54, 55, 56, 57, 58, 59, 60, 61, 62] (by decide +kernel) (by decide +kernel)
set_option maxRecDepth 20000 in
theorem gX10_slights_X10_isHouse : GoodIn wsX10_slights (wsV RX10 105 RX10 yX10_isHouse wsX10_isHouse) := goodIn_app (goodIn_of _ (by decide +kernel)) ggX10_slights_X10_isHouse
set_option maxRecDepth 20000 in
theorem ggX10_first_X10_ofHouse : GoodIn wsX10_first wsX10_ofHouse := goodIn_r _ [18, 1, 19, 20, 21, 22, 23, 24, 25, 26, 27, 28, 29, 30, 31, 32, 33, 34, 35, 36, 37, 38, 39, 40, 41, 42, 43, 44, 45, 46, 47, 48, 49, 50, 51, 52, 53, 54, 55, 56, 57, 58, 59] (by decide +kernel) (by decide +kernel)
set_option maxRecDepth 20000 in
theorem gX10_first_X10_ofHouse : GoodIn wsX10_first (wsV RX10 286 RX10 yX10_ofHouse wsX10_ofHouse) := goodIn_app (goodIn_of _ (by decide +kernel)) ggX10_first_X10_ofHouse
set_option maxRecDepth 20000 in
theorem ggX10_owes_X10_areTwo : GoodIn wsX10_owes wsX10_areTwo := goodIn_r _ [6, 7, 8, 9, 5, 10, 1, 11, 12, 13, 60, 61, 62, 63, 64, 65, 66, 67, 68, 69, 70, 71, 72, 73, 74, 75, 76, 77, 78, 79, 80, 81, 82, 83, 84, 85, 86, 87, 88, 89, 90, 91, 92, 93, 94, 95, 96, 97, 98, 99, 100] (by decide +kernel) (by decide +kernel)
set_option maxRecDepth 20000 in
theorem gX10_owes_X10_areTwo : GoodIn wsX10_owes (wsV RX10 315 RX10 yX10_areTwo wsX10_areTwo) := goodIn_app (goodIn_of _ (by decide +kernel)) ggX10_owes_X10_areTwo
set_option maxRecDepth 20000 in
theorem ggX10_owes_X10_today : GoodIn wsX10_owes wsX10_today := goodIn_r _ [28, 1, 60, 61, 62, 63, 64, 65, 66, 67, 68, 69, 70, 71, 72, 73, 74, 75, 76, 77, 78, 79, 80, 81, 82, 83, 84, 85, 86, 87, 88, 89, 90, 91, 92, 93, 94, 95, 96, 97, 98, 99, 100] (by decide +kernel) (by decide +kernel)
set_option maxRecDepth 20000 in
theorem gX10_owes_X10_today : GoodIn wsX10_owes (wsV RX10 291 RX10 yX10_today wsX10_today) := goodIn_app (goodIn_of _ (by decide +kernel)) ggX10_owes_X10_today
set_option maxRecDepth 20000 in
theorem ggX10_isRound_X10_isHouse : GoodIn wsX10_isRound wsX10_isHouse := goodIn_r _ [6, 7, 8, 9, 5, 10, 15, 16, 17, 18, 19, 20, 21, 22, 23, 24, 25, 26, 27, 28, 29, 30, 31, 32, 33, 34, 35, 36, 37, 38, 39, 40, 41, 42, 43, 44, 45, 46, 47, 48, 49, 50, 51, 52, 53, 54, 55] (by decide +kernel) (by decide +kernel)
set_option maxRecDepth 20000 in
theorem gX10_isRound_X10_isHouse : GoodIn wsX10_isRound (wsV RX10 105 RX10 yX10_isHouse wsX10_isHouse) := goodIn_app (goodIn_of _ (by decide +kernel)) ggX10_isRound_X10_isHouse
set_option maxRecDepth 20000 in
theorem ggX10_isRound_X10_today : GoodIn wsX10_isRound wsX10_today := goodIn_r _ [14, 7, 15, 16, 17, 18, 19, 20, 21, 22, 23, 24, 25, 26, 27, 28, 29, 30, 31, 32, 33, 34, 35, 36, 37, 38, 39, 40, 41, 42, 43, 44, 45, 46, 47, 48, 49, 50, 51, 52, 53, 54, 55] (by decide +kernel) (by decide +kernel)
set_option maxRecDepth 20000 in
theorem gX10_isRound_X10_today : GoodIn wsX10_isRound (wsV RX10 291 RX10 yX10_today wsX10_today) := goodIn_app (goodIn_of _ (by decide +kernel)) ggX10_isRound_X10_today
set_option maxRecDepth 20000 in
theorem ggX10_isRound_X10_in : GoodIn wsX10_isRound wsX10_in := goodIn_r _ [10] (by decide +kernel) (by decide +kernel)
set_option maxRecDepth 20000 in
theorem gX10_isRound_X10_in : GoodIn wsX10_isRound (va_wsS RX10 101 yX10_in wsX10_in) := goodIn_app (goodIn_of _ (by decide +kernel)) ggX10_isRound_X10_in
set_option maxRecDepth 20000 in
theorem ggX10_worth_X10_isRound : GoodIn wsX10_worth wsX10_isRound := goodIn_r _ [6, 7, 8, 9, 10, 5, 11, 12, 13, 14, 15, 16, 17, 18, 19, 73, 74, 75, 76, 77, 78, 79, 80, 81, 82, 83, 84, 85, 86, 87, 88, 89, 90, 91, 92, 93, 94, 95, 96, 97, 98, 99, 100, 101, 102, 103, 104, 105, 106, 107, 108, 109, 110, 111, 112, 113] (by decide +kernel) (by decide +kernel)
set_option maxRecDepth 20000 in
theorem gX10_worth_X10_isRound : GoodIn wsX10_worth (wsV RX10 429 RX10 yX10_isRound wsX10_isRound) := goodIn_app (goodIn_of _ (by decide +kernel)) ggX10_worth_X10_isRound
set_option maxRecDepth 20000 in
theorem ggX10_over_X10_isRound : GoodIn wsX10_over wsX10_isRound := goodIn_r _ [6, 7, 8, 9, 10, 5, 11, 12, 13, 14, 15, 16, 17, 18, 19, 73, 74, 75, 76, 77, 78, 79, 80, 81, 82, 83, 84, 85, 86, 87, 88, 89, 90, 91, 92, 93, 94, 95, 96, 97, 98, 99, 100, 101, 102, 103, 104, 105, 106, 107, 108, 109, 110, 111, 112, 113] (by decide +kernel) (by decide +kernel)
set_option maxRecDepth 20000 in
theorem gX10_over_X10_isRound : GoodIn wsX10_over (wsV RX10 429 RX10 yX10_isRound wsX10_isRound) := goodIn_app (goodIn_of _ (by decide +kernel)) ggX10_over_X10_isRound
set_option maxRecDepth 20000 in
theorem ggX10_round_X10_isRound : GoodIn wsX10_round wsX10_isRound := goodIn_r _ [7, 8, 9, 10, 11, 6, 12, 13, 14, 15, 16, 17, 18, 19, 20, 81, 82, 83, 84, 85, 86, 87, 88, 89, 90, 91, 92, 93, 94, 95, 96, 97, 98, 99, 100, 101, 102, 103, 104, 105, 106, 107, 108, 109, 110, 111, 112, 113, 114, 115, 116, 117, 118, 119, 120, 121] (by decide +kernel) (by decide +kernel)
set_option maxRecDepth 20000 in
theorem gX10_round_X10_isRound : GoodIn wsX10_round (wsV RX10 429 RX10 yX10_isRound wsX10_isRound) := goodIn_app (goodIn_of _ (by decide +kernel)) ggX10_round_X10_isRound
set_option maxRecDepth 20000 in
theorem ggX10_round_X10_in : GoodIn wsX10_round wsX10_in := goodIn_r _ [16] (by decide +kernel) (by decide +kernel)
set_option maxRecDepth 20000 in
theorem gX10_round_X10_in : GoodIn wsX10_round (va_wsS RX10 101 yX10_in wsX10_in) := goodIn_app (goodIn_of _ (by decide +kernel)) ggX10_round_X10_in
set_option maxRecDepth 20000 in
theorem ggX10_may_X10_isSlot : GoodIn wsX10_may wsX10_isSlot := goodIn_r _ [8, 9, 10, 11, 7, 12] (by decide +kernel) (by decide +kernel)
set_option maxRecDepth 20000 in
theorem gX10_may_X10_isSlot : GoodIn wsX10_may (va_wsS RX10 371 yX10_isSlot wsX10_isSlot) := goodIn_app (goodIn_of _ (by decide +kernel)) ggX10_may_X10_isSlot
set_option maxRecDepth 20000 in
theorem ggX10_may_X10_isRound : GoodIn wsX10_may wsX10_isRound := goodIn_r _ [16, 17, 18, 19, 20, 7, 21, 3, 10, 11, 12, 22, 23, 24, 25, 57, 58, 59, 60, 61, 62, 63, 64, 65, 66, 67, 68, 69, 70, 71, 72, 73, 74, 75, 76, 77, 78, 79, 80, 81, 82, 83, 84, 85, 86, 87, 88, 89, 90, 91, 92, 93, 94, 95, 96, 97] (by decide +kernel) (by decide +kernel)
set_option maxRecDepth 20000 in
theorem gX10_may_X10_isRound : GoodIn wsX10_may (wsV RX10 429 RX10 yX10_isRound wsX10_isRound) := goodIn_app (goodIn_of _ (by decide +kernel)) ggX10_may_X10_isRound
set_option maxRecDepth 20000 in
theorem ggX10_may_X10_in : GoodIn wsX10_may wsX10_in := goodIn_r _ [12] (by decide +kernel) (by decide +kernel)
set_option maxRecDepth 20000 in
theorem gX10_may_X10_in : GoodIn wsX10_may (va_wsS RX10 101 yX10_in wsX10_in) := goodIn_app (goodIn_of _ (by decide +kernel)) ggX10_may_X10_in
set_option maxRecDepth 20000 in
theorem ggX10_fewest_X10_isHouse : GoodIn wsX10_fewest wsX10_isHouse := goodIn_r _ [13, 14, 15, 16, 12, 17, 72, 73, 74, 75, 76, 77, 78, 79, 80, 81, 82, 83, 84, 85, 86, 87, 88, 89, 90, 91, 92, 93, 94, 95, 96, 97, 98, 99, 100, 101, 102, 103, 104, 105, 106, 107, 108, 109, 110, 111, 112] (by decide +kernel) (by decide +kernel)
set_option maxRecDepth 20000 in
theorem gX10_fewest_X10_isHouse : GoodIn wsX10_fewest (wsV RX10 105 RX10 yX10_isHouse wsX10_isHouse) := goodIn_app (goodIn_of _ (by decide +kernel)) ggX10_fewest_X10_isHouse
set_option maxRecDepth 20000 in
theorem ggX10_fewest_X10_today : GoodIn wsX10_fewest wsX10_today := goodIn_r _ [40, 14, 72, 73, 74, 75, 76, 77, 78, 79, 80, 81, 82, 83, 84, 85, 86, 87, 88, 89, 90, 91, 92, 93, 94, 95, 96, 97, 98, 99, 100, 101, 102, 103, 104, 105, 106, 107, 108, 109, 110, 111, 112] (by decide +kernel) (by decide +kernel)
set_option maxRecDepth 20000 in
theorem gX10_fewest_X10_today : GoodIn wsX10_fewest (wsV RX10 291 RX10 yX10_today wsX10_today) := goodIn_app (goodIn_of _ (by decide +kernel)) ggX10_fewest_X10_today
set_option maxRecDepth 20000 in
theorem ggX10_lost_X10_isHouse : GoodIn wsX10_lost wsX10_isHouse := goodIn_r _ [11, 12, 13, 14, 10, 15, 57, 58, 59, 60, 61, 62, 63, 64, 65, 66, 67, 68, 69, 70, 71, 72, 73, 74, 75, 76, 77, 78, 79, 80, 81, 82, 83, 84, 85, 86, 87, 88, 89, 90, 91, 92, 93, 94, 95, 96, 97] (by decide +kernel) (by decide +kernel)
set_option maxRecDepth 20000 in
theorem gX10_lost_X10_isHouse : GoodIn wsX10_lost (wsV RX10 105 RX10 yX10_isHouse wsX10_isHouse) := goodIn_app (goodIn_of _ (by decide +kernel)) ggX10_lost_X10_isHouse
set_option maxRecDepth 20000 in
theorem ggX10_lost_X10_today : GoodIn wsX10_lost wsX10_today := goodIn_r _ [38, 12, 57, 58, 59, 60, 61, 62, 63, 64, 65, 66, 67, 68, 69, 70, 71, 72, 73, 74, 75, 76, 77, 78, 79, 80, 81, 82, 83, 84, 85, 86, 87, 88, 89, 90, 91, 92, 93, 94, 95, 96, 97] (by decide +kernel) (by decide +kernel)
set_option maxRecDepth 20000 in
theorem gX10_lost_X10_today : GoodIn wsX10_lost (wsV RX10 291 RX10 yX10_today wsX10_today) := goodIn_app (goodIn_of _ (by decide +kernel)) ggX10_lost_X10_today
set_option maxRecDepth 20000 in
theorem ggX10_soon_X10_areTwo : GoodIn wsX10_soon wsX10_areTwo := goodIn_r _ [6, 7, 8, 9, 5, 10, 11, 12, 13, 14, 54, 55, 56, 57, 58, 59, 60, 61, 62, 63, 64, 65, 66, 67, 68, 69, 70, 71, 72, 73, 74, 75, 76, 77, 78, 79, 80, 81, 82, 83, 84, 85, 86, 87, 88, 89, 90, 91, 92, 93, 94] (by decide +kernel) (by decide +kernel)
set_option maxRecDepth 20000 in
theorem gX10_soon_X10_areTwo : GoodIn wsX10_soon (wsV RX10 315 RX10 yX10_areTwo wsX10_areTwo) := goodIn_app (goodIn_of _ (by decide +kernel)) ggX10_soon_X10_areTwo
set_option maxRecDepth 20000 in
theorem ggX10_path_X10_areTwo : GoodIn wsX10_path wsX10_areTwo := goodIn_r _ [7, 8, 9, 10, 6, 11, 12, 13, 14, 15, 54, 55, 56, 57, 58, 59, 60, 61, 62, 63, 64, 65, 66, 67, 68, 69, 70, 71, 72, 73, 74, 75, 76, 77, 78, 79, 80, 81, 82, 83, 84, 85, 86, 87, 88, 89, 90, 91, 92, 93, 94] (by decide +kernel) (by decide +kernel)
set_option maxRecDepth 20000 in
theorem gX10_path_X10_areTwo : GoodIn wsX10_path (wsV RX10 315 RX10 yX10_areTwo wsX10_areTwo) := goodIn_app (goodIn_of _ (by decide +kernel)) ggX10_path_X10_areTwo
set_option maxRecDepth 20000 in
theorem ggX10_path_X10_in : GoodIn wsX10_path wsX10_in := goodIn_r _ [15] (by decide +kernel) (by decide +kernel)
set_option maxRecDepth 20000 in
theorem gX10_path_X10_in : GoodIn wsX10_path (va_wsS RX10 101 yX10_in wsX10_in) := goodIn_app (goodIn_of _ (by decide +kernel)) ggX10_path_X10_in
set_option maxRecDepth 20000 in
theorem ggX10_reach_X10_isHouse : GoodIn wsX10_reach wsX10_isHouse := goodIn_r _ [5, 6, 7, 8, 4, 9, 17, 18, 19, 20, 21, 22, 23, 24, 25, 26, 27, 28, 29, 30, 31, 32, 33, 34, 35, 36, 37, 38, 39, 40, 41, 42, 43, 44, 45, 46, 47, 48, 49, 50, 51, 52, 53, 54, 55, 56, 57] (by decide +kernel) (by decide +kernel)
set_option maxRecDepth 20000 in
theorem gX10_reach_X10_isHouse : GoodIn wsX10_reach (wsV RX10 105 RX10 yX10_isHouse wsX10_isHouse) := goodIn_app (goodIn_of _ (by decide +kernel)) ggX10_reach_X10_isHouse
set_option maxRecDepth 20000 in
theorem ggX10_drop_X10_isHouse : GoodIn wsX10_drop wsX10_isHouse := goodIn_r _ [7, 1, 8, 9, 6, 10, 38, 39, 40, 41, 42, 43, 44, 45, 46, 47, 48, 49, 50, 51, 52, 53, 54, 55, 56, 57, 58, 59, 60, 61, 62, 63, 64, 65, 66, 67, 68, 69, 70, 71, 72, 73, 74, 75, 76, 77, 78] (by decide +kernel) (by decide +kernel)
set_option maxRecDepth 20000 in
theorem gX10_drop_X10_isHouse : GoodIn wsX10_drop (wsV RX10 105 RX10 yX10_isHouse wsX10_isHouse) := goodIn_app (goodIn_of _ (by decide +kernel)) ggX10_drop_X10_isHouse
set_option maxRecDepth 20000 in
theorem ggX10_drop_X10_ofHouse : GoodIn wsX10_drop wsX10_ofHouse := goodIn_r _ [37, 1, 38, 39, 40, 41, 42, 43, 44, 45, 46, 47, 48, 49, 50, 51, 52, 53, 54, 55, 56, 57, 58, 59, 60, 61, 62, 63, 64, 65, 66, 67, 68, 69, 70, 71, 72, 73, 74, 75, 76, 77, 78] (by decide +kernel) (by decide +kernel)
set_option maxRecDepth 20000 in
theorem gX10_drop_X10_ofHouse : GoodIn wsX10_drop (wsV RX10 286 RX10 yX10_ofHouse wsX10_ofHouse) := goodIn_app (goodIn_of _ (by decide +kernel)) ggX10_drop_X10_ofHouse
set_option maxRecDepth 20000 in
theorem ggX10_tie_X10_areTwo : GoodIn wsX10_tie wsX10_areTwo := goodIn_r _ [5, 6, 7, 8, 4, 9, 10, 11, 12, 13, 25, 26, 27, 28, 29, 30, 31, 32, 33, 34, 35, 36, 37, 38, 39, 40, 41, 42, 43, 44, 45, 46, 47, 48, 49, 50, 51, 52, 53, 54, 55, 56, 57, 58, 59, 60, 61, 62, 63, 64, 65] (by decide +kernel) (by decide +kernel)
set_option maxRecDepth 20000 in
theorem gX10_tie_X10_areTwo : GoodIn wsX10_tie (wsV RX10 315 RX10 yX10_areTwo wsX10_areTwo) := goodIn_app (goodIn_of _ (by decide +kernel)) ggX10_tie_X10_areTwo
set_option maxRecDepth 20000 in
theorem ggX10_callsAll_X10_in : GoodIn wsX10_callsAll wsX10_in := goodIn_r _ [8] (by decide +kernel) (by decide +kernel)
set_option maxRecDepth 20000 in
theorem gX10_callsAll_X10_in : GoodIn wsX10_callsAll (va_wsS RX10 101 yX10_in wsX10_in) := goodIn_app (goodIn_of _ (by decide +kernel)) ggX10_callsAll_X10_in
set_option maxRecDepth 20000 in
theorem ggX10_ring_X10_isHouse : GoodIn wsX10_ring wsX10_isHouse := goodIn_r _ [5, 6, 7, 8, 4, 9, 31, 32, 33, 34, 35, 36, 37, 38, 39, 40, 41, 42, 43, 44, 45, 46, 47, 48, 49, 50, 51, 52, 53, 54, 55, 56, 57, 58, 59, 60, 61, 62, 63, 64, 65, 66, 67, 68, 69, 70, 71] (by decide +kernel) (by decide +kernel)
set_option maxRecDepth 20000 in
theorem gX10_ring_X10_isHouse : GoodIn wsX10_ring (wsV RX10 105 RX10 yX10_isHouse wsX10_isHouse) := goodIn_app (goodIn_of _ (by decide +kernel)) ggX10_ring_X10_isHouse
set_option maxRecDepth 20000 in
theorem ggX10_ring_X10_callsAll : GoodIn wsX10_ring wsX10_callsAll := goodIn_r _ [13, 14, 6, 15, 16, 7, 8, 4, 9, 31, 32, 33, 34, 35, 36, 37, 38, 39, 40, 41, 42, 43, 44, 45, 46, 47, 48, 49, 50, 51, 52, 53, 54, 55, 56, 57, 58, 59, 60, 61, 62, 63, 64, 65, 66, 67, 68, 69, 70, 71] (by decide +kernel) (by decide +kernel)
set_option maxRecDepth 20000 in
theorem gX10_ring_X10_callsAll : GoodIn wsX10_ring (wsV RX10 462 RX10 yX10_callsAll wsX10_callsAll) := goodIn_app (goodIn_of _ (by decide +kernel)) ggX10_ring_X10_callsAll
set_option maxRecDepth 20000 in
theorem ggX10_rings_X10_callsAll : GoodIn wsX10_rings wsX10_callsAll := goodIn_r _ [6, 7, 1, 8, 9, 10, 11, 5, 12, 27, 28, 29, 30, 31, 32, 33, 34, 35, 36, 37, 38, 39, 40, 41, 42, 43, 44, 45, 46, 47, 48, 49, 50, 51, 52, 53, 54, 55, 56, 57, 58, 59, 60, 61, 62, 63, 64, 65, 66, 67] (by decide +kernel) (by decide +kernel)
set_option maxRecDepth 20000 in
theorem gX10_rings_X10_callsAll : GoodIn wsX10_rings (wsV RX10 462 RX10 yX10_callsAll wsX10_callsAll) := goodIn_app (goodIn_of _ (by decide +kernel)) ggX10_rings_X10_callsAll
set_option maxRecDepth 20000 in
theorem ggX10_house_X10_isHouse : GoodIn wsX10_house wsX10_isHouse := goodIn_r _ [10, 3, 11, 12, 9, 13, 18, 19, 20, 21, 22, 23, 24, 25, 26, 27, 28, 29, 30, 31, 32, 33, 34, 35, 36, 37, 38, 39, 40, 41, 42, 43, 44, 45, 46, 47, 48, 49, 50, 51, 52, 53, 54, 55, 56, 57, 58] (by decide +kernel) (by decide +kernel)
set_option maxRecDepth 20000 in
theorem gX10_house_X10_isHouse : GoodIn wsX10_house (wsV RX10 105 RX10 yX10_isHouse wsX10_isHouse) := goodIn_app (goodIn_of _ (by decide +kernel)) ggX10_house_X10_isHouse
set_option maxRecDepth 20000 in
theorem ggX10_house_X10_in : GoodIn wsX10_house wsX10_in := goodIn_r _ [13] (by decide +kernel) (by decide +kernel)
set_option maxRecDepth 20000 in
theorem gX10_house_X10_in : GoodIn wsX10_house (va_wsS RX10 101 yX10_in wsX10_in) := goodIn_app (goodIn_of _ (by decide +kernel)) ggX10_house_X10_in
set_option maxRecDepth 20000 in
theorem ggX10_house_X10_ofHouse : GoodIn wsX10_house wsX10_ofHouse := goodIn_r _ [17, 3, 18, 19, 20, 21, 22, 23, 24, 25, 26, 27, 28, 29, 30, 31, 32, 33, 34, 35, 36, 37, 38, 39, 40, 41, 42, 43, 44, 45, 46, 47, 48, 49, 50, 51, 52, 53, 54, 55, 56, 57, 58] (by decide +kernel) (by decide +kernel)
set_option maxRecDepth 20000 in
theorem gX10_house_X10_ofHouse : GoodIn wsX10_house (wsV RX10 286 RX10 yX10_ofHouse wsX10_ofHouse) := goodIn_app (goodIn_of _ (by decide +kernel)) ggX10_house_X10_ofHouse
set_option maxRecDepth 20000 in
theorem ggX10_beside_X10_in : GoodIn wsX10_beside wsX10_in := goodIn_r _ [9] (by decide +kernel) (by decide +kernel)
set_option maxRecDepth 20000 in
theorem gX10_beside_X10_in : GoodIn wsX10_beside (va_wsS RX10 101 yX10_in wsX10_in) := goodIn_app (goodIn_of _ (by decide +kernel)) ggX10_beside_X10_in
set_option maxRecDepth 20000 in
theorem ggX10_beside_X10_ofHouse : GoodIn wsX10_beside wsX10_ofHouse := goodIn_r _ [13, 4, 72, 73, 74, 75, 76, 77, 78, 79, 80, 81, 82, 83, 84, 85, 86, 87, 88, 89, 90, 91, 92, 93, 94, 95, 96, 97, 98, 99, 100, 101, 102, 103, 104, 105, 106, 107, 108, 109, 110, 111, 112] (by decide +kernel) (by decide +kernel)
set_option maxRecDepth 20000 in
theorem gX10_beside_X10_ofHouse : GoodIn wsX10_beside (wsV RX10 286 RX10 yX10_ofHouse wsX10_ofHouse) := goodIn_app (goodIn_of _ (by decide +kernel)) ggX10_beside_X10_ofHouse
set_option maxRecDepth 20000 in
theorem ggX10_count_X10_today : GoodIn wsX10_count wsX10_today := goodIn_r _ [8, 1, 13, 14, 15, 16, 17, 18, 19, 20, 21, 22, 23, 24, 25, 26, 27, 28, 29, 30, 31, 32, 33, 34, 35, 36, 37, 38, 39, 40, 41, 42, 43, 44, 45, 46, 47, 48, 49, 50, 51, 52, 53] (by decide +kernel) (by decide +kernel)
set_option maxRecDepth 20000 in
theorem gX10_count_X10_today : GoodIn wsX10_count (wsV RX10 291 RX10 yX10_today wsX10_today) := goodIn_app (goodIn_of _ (by decide +kernel)) ggX10_count_X10_today
set_option maxRecDepth 20000 in
theorem ggX10_isSlot_X10_in : GoodIn wsX10_isSlot wsX10_in := goodIn_r _ [5] (by decide +kernel) (by decide +kernel)
set_option maxRecDepth 20000 in
theorem gX10_isSlot_X10_in : GoodIn wsX10_isSlot (va_wsS RX10 101 yX10_in wsX10_in) := goodIn_app (goodIn_of _ (by decide +kernel)) ggX10_isSlot_X10_in
set_option maxRecDepth 20000 in
theorem ggX10_row_X10_isSlot : GoodIn wsX10_row wsX10_isSlot := goodIn_r _ [8, 1, 9, 10, 7, 11] (by decide +kernel) (by decide +kernel)
set_option maxRecDepth 20000 in
theorem gX10_row_X10_isSlot : GoodIn wsX10_row (va_wsS RX10 371 yX10_isSlot wsX10_isSlot) := goodIn_app (goodIn_of _ (by decide +kernel)) ggX10_row_X10_isSlot
set_option maxRecDepth 20000 in
theorem ggX10_row_X10_in : GoodIn wsX10_row wsX10_in := goodIn_r _ [11] (by decide +kernel) (by decide +kernel)
set_option maxRecDepth 20000 in
theorem gX10_row_X10_in : GoodIn wsX10_row (va_wsS RX10 101 yX10_in wsX10_in) := goodIn_app (goodIn_of _ (by decide +kernel)) ggX10_row_X10_in
set_option maxRecDepth 20000 in
theorem ggX10_write_X10_isSlot : GoodIn wsX10_write wsX10_isSlot := goodIn_r _ [7, 8, 9, 10, 6, 11] (by decide +kernel) (by decide +kernel)
set_option maxRecDepth 20000 in
theorem gX10_write_X10_isSlot : GoodIn wsX10_write (va_wsS RX10 371 yX10_isSlot wsX10_isSlot) := goodIn_app (goodIn_of _ (by decide +kernel)) ggX10_write_X10_isSlot
set_option maxRecDepth 20000 in
theorem ggX10_write_X10_in : GoodIn wsX10_write wsX10_in := goodIn_r _ [11] (by decide +kernel) (by decide +kernel)
set_option maxRecDepth 20000 in
theorem gX10_write_X10_in : GoodIn wsX10_write (va_wsS RX10 101 yX10_in wsX10_in) := goodIn_app (goodIn_of _ (by decide +kernel)) ggX10_write_X10_in
set_option maxRecDepth 20000 in
theorem ggX10_paste_X10_isSlot : GoodIn wsX10_paste wsX10_isSlot := goodIn_r _ [8, 9, 10, 11, 7, 12] (by decide +kernel) (by decide +kernel)
set_option maxRecDepth 20000 in
theorem gX10_paste_X10_isSlot : GoodIn wsX10_paste (va_wsS RX10 371 yX10_isSlot wsX10_isSlot) := goodIn_app (goodIn_of _ (by decide +kernel)) ggX10_paste_X10_isSlot
set_option maxRecDepth 20000 in
theorem ggL_law_X9_init : GoodIn wsL_law wsX9_init := goodIn_r _ [9, 10, 11, 12, 13, 14, 15, 16, 17, 18, 19, 20, 21, 22, 23, 24, 25, 26, 27, 28, 29, 30, 31, 32, 33, 34, 35, 36, 37, 38, 39, 40, 41, 42, 43, 44, 45, 46, 47, 48, 49, 50, 51, 52, 53, 54, 55, 56, 57, 58, 59, 60, 61, 62, 63, 64, 65, 66, 67, 68, 69, 70, 71, 72, 73, 74, 75, 76, 77, 78, 79, 80, 81, 82, 83, 84, 85, 86, 87, 88, 89, 90, 91, 92, 93, 94, 95, 96, 97, 98, 99, 100, 101, 102, 103, 104, 105, 106, 107, 108, 109, 110, 111, 112, 113, 114, 115, 116, 117, 118, 119, 120, 121, 122, 123, 124, 125, 126, 127, 128, 129, 130, 131, 132, 133, 134, 135, 136, 137, 138, 139, 1364, 1365, 1366, 1367, 1368, 1369, 1370, 1371, 1372, 1373, 1415, 1416, 1417, 1418, 1419, 1420, 1421, 1422, 1423, 1424, 1425, 1426, 1427, 1428, 1429, 1430, 1431, 1432, 1433, 1434, 1435, 1436, 1437, 1438, 1439, 1440, 1441, 1442, 1443, 1444, 1445, 1446, 1447, 1448, 1449, 1450, 1451, 1452, 1453, 1454, 1455, 1456, 1457, 1458, 1459, 1460, 1461, 1462, 1463, 1464, 1465, 1466, 1467, 1468, 1469, 1470, 1471, 1472, 1473, 1474, 1475, 1476, 1477, 1478, 1479, 1480, 1481, 1482, 1483, 1484, 1485, 1486, 1487, 1488, 1489, 1490, 1491, 1492, 1493, 1494, 1495, 1496, 1497, 1498, 1499] (by decide +kernel) (by decide +kernel)
set_option maxRecDepth 20000 in
theorem gL_law_X9_init : GoodIn wsL_law (wsX9_init) := ggL_law_X9_init
set_option maxRecDepth 20000 in
theorem ggL_law_X10_init : GoodIn wsL_law wsX10_init := goodIn_r _ [142, 143, 11, 12, 38, 144, 145, 146, 147, 13, 148, 149, 150, 151, 152, 153, 154, 155, 156, 157, 158, 159, 160, 161, 162, 163, 164, 165, 166, 167, 168, 169, 170, 138, 171, 172, 1374, 1375, 1376, 1377, 1378, 1379, 1380, 1381, 1382, 1383, 1384, 1385, 1386, 1387, 1388, 1389, 1390, 1391, 1392, 1393, 1394, 1395, 1396, 1397, 1398, 1399, 1400, 1401, 1402, 1403, 1404, 1405, 1406, 1407, 1408, 1409, 1410, 1411, 1412, 1413, 1414] (by decide +kernel) (by decide +kernel)
set_option maxRecDepth 20000 in
theorem gL_law_X10_init : GoodIn wsL_law (wsX10_init) := ggL_law_X10_init
set_option maxRecDepth 20000 in
theorem ggL_law_X9_feed : GoodIn wsL_law wsX9_feed := goodIn_r _ [176, 177, 178, 179, 180, 2, 181, 14, 1364, 1365, 1366, 1367, 1368, 1369, 1370, 1371, 1372, 1373] (by decide +kernel) (by decide +kernel)
set_option maxRecDepth 20000 in
theorem gL_law_X9_feed : GoodIn wsL_law (wsV RL 13 RX9 yX9_feed wsX9_feed) := goodIn_app (goodIn_of _ (by decide +kernel)) ggL_law_X9_feed
set_option maxRecDepth 20000 in
theorem ggL_law_X10_feed : GoodIn wsL_law wsX10_feed := goodIn_r _ [185, 186, 149, 148, 1374, 1375, 1376, 1377, 1378, 1379, 1380, 1381, 1382, 1383, 1384, 1385, 1386, 1387, 1388, 1389, 1390, 1391, 1392, 1393, 1394, 1395, 1396, 1397, 1398, 1399, 1400, 1401, 1402, 1403, 1404, 1405, 1406, 1407, 1408, 1409, 1410, 1411, 1412, 1413, 1414] (by decide +kernel) (by decide +kernel)
set_option maxRecDepth 20000 in
theorem gL_law_X10_feed : GoodIn wsL_law (wsV RL 17 RX10 yX10_feed wsX10_feed) := goodIn_app (goodIn_of _ (by decide +kernel)) ggL_law_X10_feed
set_option maxRecDepth 20000 in
theorem ggL_law_X9_end : GoodIn wsL_law wsX9_end := goodIn_r _ [190, 177, 1364, 1365, 1366, 1367, 1368, 1369, 1370, 1371, 1372, 1373] (by decide +kernel) (by decide +kernel)
set_option maxRecDepth 20000 in
theorem gL_law_X9_end : GoodIn wsL_law (wsV RL 18 RX9 yX9_end wsX9_end) := goodIn_app (goodIn_of _ (by decide +kernel)) ggL_law_X9_end
set_option maxRecDepth 20000 in
theorem ggL_law_X10_end : GoodIn wsL_law wsX10_end := goodIn_r _ [194, 186, 195, 196, 5, 197, 1374, 1375, 1376, 1377, 1378, 1379, 1380, 1381, 1382, 1383, 1384, 1385, 1386, 1387, 1388, 1389, 1390, 1391, 1392, 1393, 1394, 1395, 1396, 1397, 1398, 1399, 1400, 1401, 1402, 1403, 1404, 1405, 1406, 1407, 1408, 1409, 1410, 1411, 1412, 1413, 1414] (by decide +kernel) (by decide +kernel)
set_option maxRecDepth 20000 in
theorem gL_law_X10_end : GoodIn wsL_law (wsV RL 22 RX10 yX10_end wsX10_end) := goodIn_app (goodIn_of _ (by decide +kernel)) ggL_law_X10_end
set_option maxRecDepth 20000 in
theorem ggL_law_X9_town : GoodIn wsL_law wsX9_town := goodIn_r _ [201, 18, 14, 177, 202, 22, 203, 204, 205, 206, 207, 208, 209, 17, 210, 211, 212, 213, 214, 215, 216, 217, 218, 53, 48, 52, 219, 220, 221, 222, 47, 223, 224, 225, 57, 66, 226, 227, 228, 229, 230, 231, 232, 51, 233, 234, 235, 236, 237, 238, 239, 240, 241, 242, 243, 244, 245, 246, 247, 248, 249, 250, 251, 252, 253, 254, 255, 256, 257, 258, 259, 260, 261, 262, 263, 264, 265, 266, 267, 268, 269, 270, 271, 272, 273, 274, 275, 276, 277, 278, 279, 280, 281, 282, 283, 284, 285, 286, 287, 288, 289, 290, 291, 292, 293, 294, 295, 296, 297, 298, 299, 300, 301, 302, 303, 304, 305, 306, 307, 308, 309, 310, 311, 312, 313, 314, 315, 316, 317, 318, 319, 320, 321, 322, 323, 324, 325, 326, 327, 328, 329, 330, 331, 332, 333, 334, 335, 336, 337, 338, 75, 339, 340, 341, 342, 343, 344, 345, 346, 347, 348, 349, 350, 351, 352, 353, 354, 355, 356, 357, 358, 359, 360, 361, 362, 363, 364, 365, 366, 367, 368, 369, 21, 370, 81, 83, 85, 89, 371, 372, 90, 373, 374, 375, 376, 377, 378, 379, 380, 381, 382, 58, 383, 59, 60, 61, 62, 63, 64, 65, 384, 385, 386, 387, 70, 388, 71, 72, 73, 74, 389, 390, 391, 36, 392, 393, 100, 101, 394, 395, 396, 397, 2, 398, 29, 399, 33, 400, 1364, 1365, 1366, 1367, 1368, 1369, 1370, 1371, 1372, 1373, 1415, 1416, 1417, 1418, 1419, 1420, 1421, 1422, 1423, 1424, 1425, 1426, 1427, 1428, 1429, 1430, 1431, 1432, 1473, 1474, 1475, 1476, 1477, 1478, 1479, 1480, 1481, 1482, 1483, 1484, 1485, 1486, 1487, 1488, 1489, 1490, 1491, 1492, 1493, 1494, 1495, 1496, 1497, 1498, 1499, 1461, 1462, 1463, 1464, 1465, 1466, 1467, 1468, 1433, 1434, 1435, 1436, 1437, 1438, 1439, 1440, 1441, 1442, 1443, 1444, 1445, 1446, 1447, 1448, 1449, 1450, 1451, 1452, 1453, 1454, 1455, 1456, 1457, 1458, 1459, 1460] (by decide +kernel) (by decide +kernel)
set_option maxRecDepth 20000 in
theorem gL_law_X9_town : GoodIn wsL_law (wsV RL 23 RX9 yX9_town wsX9_town) := goodIn_app (goodIn_of _ (by decide +kernel)) ggL_law_X9_town
set_option maxRecDepth 20000 in
theorem ggL_law_X10_town : GoodIn wsL_law wsX10_town := goodIn_r _ [404, 186, 405, 406, 407, 150, 151, 408, 144, 409, 410, 411, 5, 412, 413, 414, 415, 416, 417, 418, 419, 213, 214, 215, 420, 421, 422, 423, 148, 195, 196, 197, 424, 425, 426, 427, 428, 429, 430, 431, 432, 433, 434, 435, 436, 437, 438, 439, 440, 256, 257, 258, 259, 260, 261, 262, 263, 264, 265, 266, 441, 268, 269, 270, 271, 272, 273, 274, 275, 276, 277, 278, 279, 280, 281, 282, 283, 284, 285, 286, 287, 288, 289, 290, 291, 292, 293, 294, 295, 296, 297, 298, 299, 300, 301, 302, 303, 442, 443, 444, 445, 446, 447, 448, 449, 450, 451, 452, 453, 454, 455, 456, 457, 458, 459, 460, 461, 462, 463, 464, 465, 466, 467, 468, 469, 470, 471, 472, 473, 474, 475, 476, 477, 478, 479, 480, 481, 482, 483, 484, 485, 486, 487, 488, 489, 490, 491, 492, 493, 494, 495, 496, 497, 1374, 1375, 1376, 1377, 1378, 1379, 1380, 1381, 1382, 1383, 1384, 1385, 1386, 1387, 1388, 1389, 1390, 1391, 1392, 1393, 1394, 1395, 1396, 1397, 1398, 1399, 1400, 1401, 1402, 1403, 1404, 1405, 1406, 1407, 1408, 1409, 1410, 1411, 1412, 1413, 1414] (by decide +kernel) (by decide +kernel)
set_option maxRecDepth 20000 in
theorem gL_law_X10_town : GoodIn wsL_law (wsV RL 27 RX10 yX10_town wsX10_town) := goodIn_app (goodIn_of _ (by decide +kernel)) ggL_law_X10_town
set_option maxRecDepth 20000 in
theorem ggL_law_X9_fault : GoodIn wsL_law wsX9_fault := goodIn_r _ [501, 18, 202, 502, 1364, 1365, 1366, 1367, 1368, 1369, 1370, 1371, 1372, 1373, 1415, 1416, 1417, 1418, 1419, 1420, 1421, 1422, 1423, 1424] (by decide +kernel) (by decide +kernel)
set_option maxRecDepth 20000 in
theorem gL_law_X9_fault : GoodIn wsL_law (wsV RL 28 RX9 yX9_fault wsX9_fault) := goodIn_app (goodIn_of _ (by decide +kernel)) ggL_law_X9_fault
set_option maxRecDepth 20000 in
theorem ggL_law_X10_fault : GoodIn wsL_law wsX10_fault := goodIn_r _ [506, 407, 150, 1374, 1375, 1376, 1377, 1378, 1379, 1380, 1381, 1382, 1383, 1384, 1385, 1386, 1387, 1388, 1389, 1390, 1391, 1392, 1393, 1394, 1395, 1396, 1397, 1398, 1399, 1400, 1401, 1402, 1403, 1404, 1405, 1406, 1407, 1408, 1409, 1410, 1411, 1412, 1413, 1414] (by decide +kernel) (by decide +kernel)
set_option maxRecDepth 20000 in
theorem gL_law_X10_fault : GoodIn wsL_law (wsV RL 31 RX10 yX10_fault wsX10_fault) := goodIn_app (goodIn_of _ (by decide +kernel)) ggL_law_X10_fault
set_option maxRecDepth 20000 in
theorem ggL_law_X9_days : GoodIn wsL_law wsX9_days := goodIn_r _ [510, 22, 511, 395, 396, 397, 2, 398, 29, 399, 33, 400, 1364, 1365, 1366, 1367, 1368, 1369, 1370, 1371, 1372, 1373, 1425, 1426, 1427, 1428, 1429, 1430, 1431, 1432, 1433, 1434, 1435, 1436, 1437, 1438, 1439, 1440, 1441, 1442, 1443, 1444, 1445, 1446, 1447, 1448, 1449, 1450, 1451, 1452, 1453, 1454, 1455, 1456, 1457, 1458, 1459, 1460] (by decide +kernel) (by decide +kernel)
set_option maxRecDepth 20000 in
theorem gL_law_X9_days : GoodIn wsL_law (wsV RL 32 RX9 yX9_days wsX9_days) := goodIn_app (goodIn_of _ (by decide +kernel)) ggL_law_X9_days
set_option maxRecDepth 20000 in
theorem ggL_law_X10_days : GoodIn wsL_law wsX10_days := goodIn_r _ [515, 516, 144, 195, 196, 5, 197, 517, 518, 519, 520, 1374, 1375, 1376, 1377, 1378, 1379, 1380, 1381, 1382, 1383, 1384, 1385, 1386, 1387, 1388, 1389, 1390, 1391, 1392, 1393, 1394, 1395, 1396, 1397, 1398, 1399, 1400, 1401, 1402, 1403, 1404, 1405, 1406, 1407, 1408, 1409, 1410, 1411, 1412, 1413, 1414] (by decide +kernel) (by decide +kernel)
set_option maxRecDepth 20000 in
theorem gL_law_X10_days : GoodIn wsL_law (wsV RL 35 RX10 yX10_days wsX10_days) := goodIn_app (goodIn_of _ (by decide +kernel)) ggL_law_X10_days
set_option maxRecDepth 20000 in
theorem ggL_law_X9_bars : GoodIn wsL_law wsX9_bars := goodIn_r _ [524, 22, 525, 526, 527, 2, 528, 205, 529, 530, 531, 47, 532, 533, 534, 535, 536, 224, 537, 538, 539, 21, 540, 81, 377, 541, 542, 543, 544, 545, 64, 546, 547, 548, 549, 90, 550, 551, 552, 553, 554, 555, 556, 557, 558, 225, 559, 560, 561, 562, 563, 564, 565, 566, 567, 568, 569, 65, 1364, 1365, 1366, 1367, 1368, 1369, 1370, 1371, 1372, 1373, 1425, 1426, 1427, 1428, 1429, 1430, 1431, 1432, 1473, 1474, 1475, 1476, 1477, 1478, 1479, 1480, 1481, 1482, 1483, 1484] (by decide +kernel) (by decide +kernel)
set_option maxRecDepth 20000 in
theorem gL_law_X9_bars : GoodIn wsL_law (wsV RL 36 RX9 yX9_bars wsX9_bars) := goodIn_app (goodIn_of _ (by decide +kernel)) ggL_law_X9_bars
set_option maxRecDepth 20000 in
theorem ggL_law_X10_bars : GoodIn wsL_law wsX10_bars := goodIn_r _ [573, 574, 575, 576, 5, 577, 578, 579, 580, 581, 144, 195, 196, 197, 582, 583, 584, 585, 586, 587, 588, 589, 517, 518, 519, 520, 590, 591, 592, 593, 494, 495, 496, 497, 594, 595, 596, 597, 598, 599, 600, 601, 602, 603, 604, 605, 606, 607, 608, 609, 610, 611, 1374, 1375, 1376, 1377, 1378, 1379, 1380, 1381, 1382, 1383, 1384, 1385, 1386, 1387, 1388, 1389, 1390, 1391, 1392, 1393, 1394, 1395, 1396, 1397, 1398, 1399, 1400, 1401, 1402, 1403, 1404, 1405, 1406, 1407, 1408, 1409, 1410, 1411, 1412, 1413, 1414] (by decide +kernel) (by decide +kernel)
set_option maxRecDepth 20000 in
theorem gL_law_X10_bars : GoodIn wsL_law (wsV RL 40 RX10 yX10_bars wsX10_bars) := goodIn_app (goodIn_of _ (by decide +kernel)) ggL_law_X10_bars
set_option maxRecDepth 20000 in
theorem ggL_law_X9_does : GoodIn wsL_law wsX9_does := goodIn_r _ [615, 22, 616, 525, 526, 527, 2, 528, 205, 529, 530, 531, 47, 532, 533, 534, 535, 536, 224, 537, 538, 539, 21, 540, 81, 377, 541, 542, 543, 544, 545, 64, 546, 547, 548, 549, 90, 550, 551, 552, 553, 554, 555, 556, 557, 558, 225, 559, 560, 561, 562, 563, 564, 565, 566, 567, 568, 569, 65, 617, 618, 619, 88, 620, 621, 395, 396, 397, 398, 29, 399, 33, 400, 622, 623, 624, 625, 85, 83, 378, 89, 626, 627, 628, 629, 630, 631, 632, 633, 634, 213, 214, 215, 635, 636, 637, 36, 638, 393, 95, 96, 97, 100, 101, 639, 640, 641, 642, 643, 644, 645, 646, 98, 99, 647, 648, 649, 51, 650, 76, 234, 70, 651, 652, 653, 654, 74, 655, 656, 73, 75, 657, 658, 659, 660, 661, 662, 663, 664, 665, 666, 667, 668, 669, 670, 671, 672, 673, 674, 675, 676, 677, 678, 679, 680, 681, 105, 106, 107, 108, 682, 683, 684, 1364, 1365, 1366, 1367, 1368, 1369, 1370, 1371, 1372, 1373, 1425, 1426, 1427, 1428, 1429, 1430, 1431, 1432, 1473, 1474, 1475, 1476, 1477, 1478, 1479, 1480, 1481, 1482, 1483, 1484, 1495, 1496, 1497, 1498, 1499, 1433, 1434, 1435, 1436, 1437, 1438, 1439, 1440, 1441, 1442, 1443, 1444, 1445, 1446, 1447, 1448, 1449, 1450, 1451, 1452, 1453, 1454, 1455, 1456, 1457, 1458, 1459, 1460, 1461, 1462, 1463, 1464, 1465, 1466, 1467, 1468, 1485, 1486, 1487, 1488, 1489, 1490, 1491, 1492, 1493, 1494] (by decide +kernel) (by decide +kernel)
set_option maxRecDepth 20000 in
theorem gL_law_X9_does : GoodIn wsL_law (wsV RL 41 RX9 yX9_does wsX9_does) := goodIn_app (goodIn_of _ (by decide +kernel)) ggL_law_X9_does
set_option maxRecDepth 20000 in
theorem ggL_law_X10_does : GoodIn wsL_law wsX10_does := goodIn_r _ [688, 144, 574, 575, 576, 5, 577, 578, 579, 580, 581, 195, 196, 197, 582, 583, 584, 585, 586, 587, 588, 589, 517, 518, 519, 520, 590, 591, 592, 593, 494, 495, 496, 497, 594, 595, 596, 597, 598, 599, 600, 601, 602, 603, 604, 605, 606, 607, 608, 609, 610, 611, 689, 690, 691, 692, 693, 694, 695, 696, 419, 213, 214, 215, 697, 698, 699, 700, 701, 702, 703, 704, 705, 706, 707, 708, 709, 710, 711, 712, 713, 714, 715, 716, 152, 717, 718, 719, 720, 721, 722, 723, 724, 725, 726, 727, 728, 729, 730, 731, 732, 733, 734, 735, 736, 737, 738, 1374, 1375, 1376, 1377, 1378, 1379, 1380, 1381, 1382, 1383, 1384, 1385, 1386, 1387, 1388, 1389, 1390, 1391, 1392, 1393, 1394, 1395, 1396, 1397, 1398, 1399, 1400, 1401, 1402, 1403, 1404, 1405, 1406, 1407, 1408, 1409, 1410, 1411, 1412, 1413, 1414] (by decide +kernel) (by decide +kernel)
set_option maxRecDepth 20000 in
theorem gL_law_X10_does : GoodIn wsL_law (wsV RL 44 RX10 yX10_does wsX10_does) := goodIn_app (goodIn_of _ (by decide +kernel)) ggL_law_X10_does
set_option maxRecDepth 20000 in
theorem ggL_law_X9_meet : GoodIn wsL_law wsX9_meet := goodIn_r _ [742, 22, 205, 616, 529, 530, 531, 47, 532, 533, 534, 535, 536, 224, 617, 618, 619, 88, 620, 621, 395, 396, 397, 2, 398, 29, 399, 33, 400, 743, 744, 745, 21, 746, 90, 89, 377, 551, 552, 553, 554, 682, 683, 684, 678, 679, 680, 681, 105, 106, 107, 108, 1364, 1365, 1366, 1367, 1368, 1369, 1370, 1371, 1372, 1373, 1425, 1426, 1427, 1428, 1429, 1430, 1431, 1432, 1473, 1474, 1475, 1476, 1477, 1478, 1479, 1480, 1481, 1482, 1483, 1484, 1495, 1496, 1497, 1498, 1499, 1433, 1434, 1435, 1436, 1437, 1438, 1439, 1440, 1441, 1442, 1443, 1444, 1445, 1446, 1447, 1448, 1449, 1450, 1451, 1452, 1453, 1454, 1455, 1456, 1457, 1458, 1459, 1460] (by decide +kernel) (by decide +kernel)
set_option maxRecDepth 20000 in
theorem gL_law_X9_meet : GoodIn wsL_law (wsV RL 45 RX9 yX9_meet wsX9_meet) := goodIn_app (goodIn_of _ (by decide +kernel)) ggL_law_X9_meet
set_option maxRecDepth 20000 in
theorem ggL_law_X10_meet : GoodIn wsL_law wsX10_meet := goodIn_r _ [750, 144, 574, 575, 576, 5, 577, 578, 579, 580, 581, 195, 196, 197, 594, 595, 596, 597, 598, 599, 600, 689, 690, 691, 692, 517, 518, 519, 520, 693, 694, 695, 696, 419, 213, 214, 215, 697, 698, 699, 700, 701, 702, 703, 704, 705, 706, 707, 708, 709, 710, 711, 712, 713, 714, 715, 716, 152, 494, 495, 496, 497, 717, 718, 719, 720, 721, 722, 723, 724, 725, 726, 727, 728, 729, 730, 731, 732, 733, 734, 735, 736, 737, 738, 1374, 1375, 1376, 1377, 1378, 1379, 1380, 1381, 1382, 1383, 1384, 1385, 1386, 1387, 1388, 1389, 1390, 1391, 1392, 1393, 1394, 1395, 1396, 1397, 1398, 1399, 1400, 1401, 1402, 1403, 1404, 1405, 1406, 1407, 1408, 1409, 1410, 1411, 1412, 1413, 1414] (by decide +kernel) (by decide +kernel)
set_option maxRecDepth 20000 in
theorem gL_law_X10_meet : GoodIn wsL_law (wsV RL 49 RX10 yX10_meet wsX10_meet) := goodIn_app (goodIn_of _ (by decide +kernel)) ggL_law_X10_meet
set_option maxRecDepth 20000 in
theorem ggL_law_X9_done : GoodIn wsL_law wsX9_done := goodIn_r _ [754, 25, 755, 756, 757, 758, 2, 759, 760, 761, 762, 41, 763, 764, 139, 765, 766, 740, 741, 742, 22, 205, 616, 529, 530, 531, 47, 532, 533, 534, 535, 536, 224, 617, 618, 619, 88, 620, 621, 395, 396, 397, 398, 29, 399, 33, 400, 743, 744, 745, 21, 746, 90, 89, 377, 551, 552, 553, 554, 682, 683, 684, 678, 679, 680, 681, 105, 106, 107, 108, 767, 613, 614, 615, 525, 526, 527, 528, 537, 538, 539, 540, 81, 541, 542, 543, 544, 545, 64, 546, 547, 548, 549, 550, 555, 556, 557, 558, 225, 559, 560, 561, 562, 563, 564, 565, 566, 567, 568, 569, 65, 622, 623, 624, 625, 85, 83, 378, 626, 627, 628, 629, 630, 631, 632, 633, 634, 213, 214, 215, 635, 636, 637, 36, 638, 393, 95, 96, 97, 100, 101, 639, 640, 641, 642, 643, 644, 645, 646, 98, 99, 647, 648, 649, 51, 650, 76, 234, 70, 651, 652, 653, 654, 74, 655, 656, 73, 75, 657, 658, 659, 660, 661, 662, 663, 664, 665, 666, 667, 668, 669, 670, 671, 672, 673, 674, 675, 676, 677, 1364, 1365, 1366, 1367, 1368, 1369, 1370, 1371, 1372, 1373, 1469, 1470, 1471, 1472, 1425, 1426, 1427, 1428, 1429, 1430, 1431, 1432, 1473, 1474, 1475, 1476, 1477, 1478, 1479, 1480, 1481, 1482, 1483, 1484, 1495, 1496, 1497, 1498, 1499, 1433, 1434, 1435, 1436, 1437, 1438, 1439, 1440, 1441, 1442, 1443, 1444, 1445, 1446, 1447, 1448, 1449, 1450, 1451, 1452, 1453, 1454, 1455, 1456, 1457, 1458, 1459, 1460, 1461, 1462, 1463, 1464, 1465, 1466, 1467, 1468, 1485, 1486, 1487, 1488, 1489, 1490, 1491, 1492, 1493, 1494] (by decide +kernel) (by decide +kernel)
set_option maxRecDepth 20000 in
theorem gL_law_X9_done : GoodIn wsL_law (wsV RL 50 RX9 yX9_done wsX9_done) := goodIn_app (goodIn_of _ (by decide +kernel)) ggL_law_X9_done
set_option maxRecDepth 20000 in
theorem ggL_law_X10_done : GoodIn wsL_law wsX10_done := goodIn_r _ [771, 169, 171, 772, 773, 774, 775, 5, 776, 585, 195, 196, 197, 777, 748, 749, 750, 144, 574, 575, 576, 577, 578, 579, 580, 581, 594, 595, 596, 597, 598, 599, 600, 689, 690, 691, 692, 517, 518, 519, 520, 693, 694, 695, 696, 419, 213, 214, 215, 697, 698, 699, 700, 701, 702, 703, 704, 705, 706, 707, 708, 709, 710, 711, 712, 713, 714, 715, 716, 152, 494, 495, 496, 497, 717, 718, 719, 720, 721, 722, 723, 724, 725, 726, 727, 728, 729, 730, 731, 732, 733, 734, 735, 736, 737, 738, 778, 686, 687, 688, 582, 583, 584, 586, 587, 588, 589, 590, 591, 592, 593, 601, 602, 603, 604, 605, 606, 607, 608, 609, 610, 611, 1374, 1375, 1376, 1377, 1378, 1379, 1380, 1381, 1382, 1383, 1384, 1385, 1386, 1387, 1388, 1389, 1390, 1391, 1392, 1393, 1394, 1395, 1396, 1397, 1398, 1399, 1400, 1401, 1402, 1403, 1404, 1405, 1406, 1407, 1408, 1409, 1410, 1411, 1412, 1413, 1414] (by decide +kernel) (by decide +kernel)
set_option maxRecDepth 20000 in
theorem gL_law_X10_done : GoodIn wsL_law (wsV RL 53 RX10 yX10_done wsX10_done) := goodIn_app (goodIn_of _ (by decide +kernel)) ggL_law_X10_done
set_option maxRecDepth 20000 in
theorem ggL_law_X9_known : GoodIn wsL_law wsX9_known := goodIn_r _ [782, 22, 205, 529, 530, 531, 47, 532, 533, 534, 535, 536, 224, 783, 552, 553, 21, 554, 90, 1364, 1365, 1366, 1367, 1368, 1369, 1370, 1371, 1372, 1373, 1425, 1426, 1427, 1428, 1429, 1430, 1431, 1432, 1473, 1474, 1475, 1476, 1477, 1478, 1479, 1480, 1481, 1482, 1483, 1484] (by decide +kernel) (by decide +kernel)
set_option maxRecDepth 20000 in
theorem gL_law_X9_known : GoodIn wsL_law (wsV RL 54 RX9 yX9_known wsX9_known) := goodIn_app (goodIn_of _ (by decide +kernel)) ggL_law_X9_known
set_option maxRecDepth 20000 in
theorem ggL_law_X10_known : GoodIn wsL_law wsX10_known := goodIn_r _ [787, 574, 575, 576, 5, 577, 578, 579, 580, 581, 144, 195, 196, 197, 594, 595, 596, 597, 598, 599, 600, 1374, 1375, 1376, 1377, 1378, 1379, 1380, 1381, 1382, 1383, 1384, 1385, 1386, 1387, 1388, 1389, 1390, 1391, 1392, 1393, 1394, 1395, 1396, 1397, 1398, 1399, 1400, 1401, 1402, 1403, 1404, 1405, 1406, 1407, 1408, 1409, 1410, 1411, 1412, 1413, 1414] (by decide +kernel) (by decide +kernel)
set_option maxRecDepth 20000 in
theorem gL_law_X10_known : GoodIn wsL_law (wsV RL 57 RX10 yX10_known wsX10_known) := goodIn_app (goodIn_of _ (by decide +kernel)) ggL_law_X10_known
set_option maxRecDepth 20000 in
theorem ggL_law_X9_debts : GoodIn wsL_law wsX9_debts := goodIn_r _ [791, 22, 205, 792, 793, 794, 534, 535, 47, 536, 224, 1364, 1365, 1366, 1367, 1368, 1369, 1370, 1371, 1372, 1373, 1425, 1426, 1427, 1428, 1429, 1430, 1431, 1432, 1461, 1462, 1463, 1464, 1465, 1466, 1467, 1468, 1473, 1474, 1475, 1476, 1477, 1478, 1479, 1480, 1481, 1482, 1483, 1484] (by decide +kernel) (by decide +kernel)
set_option maxRecDepth 20000 in
theorem gL_law_X9_debts : GoodIn wsL_law (wsV RL 58 RX9 yX9_debts wsX9_debts) := goodIn_app (goodIn_of _ (by decide +kernel)) ggL_law_X9_debts
set_option maxRecDepth 20000 in
theorem ggL_law_X10_debts : GoodIn wsL_law wsX10_debts := goodIn_r _ [798, 578, 579, 580, 5, 581, 144, 195, 196, 197, 717, 718, 719, 720, 705, 706, 707, 708, 1374, 1375, 1376, 1377, 1378, 1379, 1380, 1381, 1382, 1383, 1384, 1385, 1386, 1387, 1388, 1389, 1390, 1391, 1392, 1393, 1394, 1395, 1396, 1397, 1398, 1399, 1400, 1401, 1402, 1403, 1404, 1405, 1406, 1407, 1408, 1409, 1410, 1411, 1412, 1413, 1414] (by decide +kernel) (by decide +kernel)
set_option maxRecDepth 20000 in
theorem gL_law_X10_debts : GoodIn wsL_law (wsV RL 61 RX10 yX10_debts wsX10_debts) := goodIn_app (goodIn_of _ (by decide +kernel)) ggL_law_X10_debts
set_option maxRecDepth 20000 in
theorem ggL_law_X9_debt : GoodIn wsL_law wsX9_debt := goodIn_r _ [802, 22, 205, 792, 803, 804, 805, 806, 794, 534, 535, 47, 536, 224, 807, 808, 809, 36, 810, 100, 393, 95, 1364, 1365, 1366, 1367, 1368, 1369, 1370, 1371, 1372, 1373, 1425, 1426, 1427, 1428, 1429, 1430, 1431, 1432, 1461, 1462, 1463, 1464, 1465, 1466, 1467, 1468, 1473, 1474, 1475, 1476, 1477, 1478, 1479, 1480, 1481, 1482, 1483, 1484] (by decide +kernel) (by decide +kernel)
set_option maxRecDepth 20000 in
theorem gL_law_X9_debt : GoodIn wsL_law (wsV RL 62 RX9 yX9_debt wsX9_debt) := goodIn_app (goodIn_of _ (by decide +kernel)) ggL_law_X9_debt
set_option maxRecDepth 20000 in
theorem ggL_law_X10_debt : GoodIn wsL_law wsX10_debt := goodIn_r _ [814, 585, 578, 579, 580, 5, 581, 144, 195, 196, 197, 815, 816, 817, 818, 705, 706, 707, 708, 1374, 1375, 1376, 1377, 1378, 1379, 1380, 1381, 1382, 1383, 1384, 1385, 1386, 1387, 1388, 1389, 1390, 1391, 1392, 1393, 1394, 1395, 1396, 1397, 1398, 1399, 1400, 1401, 1402, 1403, 1404, 1405, 1406, 1407, 1408, 1409, 1410, 1411, 1412, 1413, 1414] (by decide +kernel) (by decide +kernel)
set_option maxRecDepth 20000 in
theorem gL_law_X10_debt : GoodIn wsL_law (wsV RL 65 RX10 yX10_debt wsX10_debt) := goodIn_app (goodIn_of _ (by decide +kernel)) ggL_law_X10_debt
set_option maxRecDepth 20000 in
theorem ggL_law_X9_slights : GoodIn wsL_law wsX9_slights := goodIn_r _ [822, 22, 205, 792, 511, 794, 534, 535, 47, 536, 224, 823, 824, 825, 36, 826, 393, 96, 98, 1364, 1365, 1366, 1367, 1368, 1369, 1370, 1371, 1372, 1373, 1425, 1426, 1427, 1428, 1429, 1430, 1431, 1432, 1473, 1474, 1475, 1476, 1477, 1478, 1479, 1480, 1481, 1482, 1483, 1484, 1461, 1462, 1463, 1464, 1465, 1466, 1467, 1468] (by decide +kernel) (by decide +kernel)
set_option maxRecDepth 20000 in
theorem gL_law_X9_slights : GoodIn wsL_law (wsV RL 66 RX9 yX9_slights wsX9_slights) := goodIn_app (goodIn_of _ (by decide +kernel)) ggL_law_X9_slights
set_option maxRecDepth 20000 in
theorem ggL_law_X10_slights : GoodIn wsL_law wsX10_slights := goodIn_r _ [830, 578, 579, 580, 5, 581, 144, 195, 196, 197, 831, 832, 833, 834, 705, 706, 707, 708, 517, 518, 519, 520, 1374, 1375, 1376, 1377, 1378, 1379, 1380, 1381, 1382, 1383, 1384, 1385, 1386, 1387, 1388, 1389, 1390, 1391, 1392, 1393, 1394, 1395, 1396, 1397, 1398, 1399, 1400, 1401, 1402, 1403, 1404, 1405, 1406, 1407, 1408, 1409, 1410, 1411, 1412, 1413, 1414] (by decide +kernel) (by decide +kernel)
set_option maxRecDepth 20000 in
theorem gL_law_X10_slights : GoodIn wsL_law (wsV RL 69 RX10 yX10_slights wsX10_slights) := goodIn_app (goodIn_of _ (by decide +kernel)) ggL_law_X10_slights
set_option maxRecDepth 20000 in
theorem ggL_law_X9_first : GoodIn wsL_law wsX9_first := goodIn_r _ [838, 22, 205, 206, 792, 511, 839, 823, 824, 825, 36, 826, 393, 96, 98, 1364, 1365, 1366, 1367, 1368, 1369, 1370, 1371, 1372, 1373, 1425, 1426, 1427, 1428, 1429, 1430, 1431, 1432, 1473, 1474, 1475, 1476, 1477, 1478, 1479, 1480, 1481, 1482, 1483, 1484, 1461, 1462, 1463, 1464, 1465, 1466, 1467, 1468] (by decide +kernel) (by decide +kernel)
set_option maxRecDepth 20000 in
theorem gL_law_X9_first : GoodIn wsL_law (wsV RL 70 RX9 yX9_first wsX9_first) := goodIn_app (goodIn_of _ (by decide +kernel)) ggL_law_X9_first
set_option maxRecDepth 20000 in
theorem ggL_law_X10_first : GoodIn wsL_law wsX10_first := goodIn_r _ [843, 144, 831, 832, 833, 5, 834, 705, 706, 707, 708, 517, 518, 519, 520, 494, 495, 496, 497, 1374, 1375, 1376, 1377, 1378, 1379, 1380, 1381, 1382, 1383, 1384, 1385, 1386, 1387, 1388, 1389, 1390, 1391, 1392, 1393, 1394, 1395, 1396, 1397, 1398, 1399, 1400, 1401, 1402, 1403, 1404, 1405, 1406, 1407, 1408, 1409, 1410, 1411, 1412, 1413, 1414] (by decide +kernel) (by decide +kernel)
set_option maxRecDepth 20000 in
theorem gL_law_X10_first : GoodIn wsL_law (wsV RL 73 RX10 yX10_first wsX10_first) := goodIn_app (goodIn_of _ (by decide +kernel)) ggL_law_X10_first
set_option maxRecDepth 20000 in
theorem ggL_law_X9_owes : GoodIn wsL_law wsX9_owes := goodIn_r _ [847, 22, 525, 526, 527, 2, 528, 205, 529, 530, 531, 47, 532, 533, 534, 535, 536, 224, 848, 849, 850, 21, 851, 83, 81, 630, 85, 631, 377, 632, 551, 552, 553, 554, 90, 647, 648, 649, 51, 650, 76, 234, 70, 651, 652, 653, 654, 74, 655, 213, 214, 215, 656, 73, 75, 657, 658, 659, 660, 661, 662, 663, 664, 665, 666, 667, 668, 669, 670, 671, 672, 673, 640, 641, 36, 642, 101, 1364, 1365, 1366, 1367, 1368, 1369, 1370, 1371, 1372, 1373, 1425, 1426, 1427, 1428, 1429, 1430, 1431, 1432, 1473, 1474, 1475, 1476, 1477, 1478, 1479, 1480, 1481, 1482, 1483, 1484, 1461, 1462, 1463, 1464, 1465, 1466, 1467, 1468, 1485, 1486, 1487, 1488, 1489, 1490, 1491, 1492, 1493, 1494] (by decide +kernel) (by decide +kernel)
set_option maxRecDepth 20000 in
theorem gL_law_X9_owes : GoodIn wsL_law (wsV RL 74 RX9 yX9_owes wsX9_owes) := goodIn_app (goodIn_of _ (by decide +kernel)) ggL_law_X9_owes
set_option maxRecDepth 20000 in
theorem ggL_law_X10_owes : GoodIn wsL_law wsX10_owes := goodIn_r _ [855, 144, 574, 575, 576, 5, 577, 578, 579, 580, 581, 195, 196, 197, 582, 583, 584, 585, 594, 595, 596, 597, 598, 599, 600, 517, 518, 519, 520, 713, 714, 715, 716, 152, 494, 495, 496, 497, 717, 718, 719, 720, 705, 706, 707, 708, 721, 722, 723, 724, 725, 726, 727, 728, 729, 730, 731, 732, 733, 734, 1374, 1375, 1376, 1377, 1378, 1379, 1380, 1381, 1382, 1383, 1384, 1385, 1386, 1387, 1388, 1389, 1390, 1391, 1392, 1393, 1394, 1395, 1396, 1397, 1398, 1399, 1400, 1401, 1402, 1403, 1404, 1405, 1406, 1407, 1408, 1409, 1410, 1411, 1412, 1413, 1414] (by decide +kernel) (by decide +kernel)
set_option maxRecDepth 20000 in
theorem gL_law_X10_owes : GoodIn wsL_law (wsV RL 77 RX10 yX10_owes wsX10_owes) := goodIn_app (goodIn_of _ (by decide +kernel)) ggL_law_X10_owes
set_option maxRecDepth 20000 in
theorem ggL_law_X9_worth : GoodIn wsL_law wsX9_worth := goodIn_r _ [859, 29, 22, 860, 861, 862, 863, 2, 864, 205, 511, 794, 534, 535, 47, 536, 224, 865, 866, 867, 28, 868, 869, 113, 114, 870, 871, 872, 873, 115, 874, 875, 640, 641, 36, 642, 101, 876, 877, 878, 879, 120, 880, 881, 882, 883, 117, 884, 118, 885, 119, 886, 887, 888, 889, 890, 891, 892, 58, 893, 894, 214, 895, 59, 896, 897, 898, 899, 900, 901, 902, 903, 904, 905, 906, 907, 122, 121, 908, 213, 215, 909, 910, 911, 912, 913, 914, 915, 916, 917, 918, 919, 920, 921, 922, 923, 924, 123, 925, 926, 561, 927, 928, 929, 930, 931, 932, 933, 934, 935, 936, 937, 938, 939, 940, 941, 942, 943, 944, 112, 1364, 1365, 1366, 1367, 1368, 1369, 1370, 1371, 1372, 1373, 1433, 1434, 1435, 1436, 1437, 1438, 1439, 1440, 1441, 1442, 1443, 1444, 1445, 1446, 1447, 1448, 1449, 1425, 1426, 1427, 1428, 1429, 1430, 1431, 1432, 1473, 1474, 1475, 1476, 1477, 1478, 1479, 1480, 1481, 1482, 1483, 1484, 1461, 1462, 1463, 1464, 1465, 1466, 1467, 1468] (by decide +kernel) (by decide +kernel)
set_option maxRecDepth 20000 in
theorem gL_law_X9_worth : GoodIn wsL_law (wsV RL 78 RX9 yX9_worth wsX9_worth) := goodIn_app (goodIn_of _ (by decide +kernel)) ggL_law_X9_worth
set_option maxRecDepth 20000 in
theorem ggL_law_X10_worth : GoodIn wsL_law wsX10_worth := goodIn_r _ [948, 949, 950, 951, 952, 5, 953, 954, 578, 579, 580, 581, 144, 195, 196, 197, 517, 518, 519, 520, 955, 956, 957, 958, 959, 960, 961, 154, 153, 962, 963, 964, 965, 966, 967, 968, 969, 155, 705, 706, 707, 708, 970, 971, 972, 973, 156, 598, 599, 600, 974, 975, 976, 977, 978, 918, 214, 919, 979, 980, 981, 982, 983, 894, 895, 494, 495, 496, 497, 984, 985, 986, 987, 1374, 1375, 1376, 1377, 1378, 1379, 1380, 1381, 1382, 1383, 1384, 1385, 1386, 1387, 1388, 1389, 1390, 1391, 1392, 1393, 1394, 1395, 1396, 1397, 1398, 1399, 1400, 1401, 1402, 1403, 1404, 1405, 1406, 1407, 1408, 1409, 1410, 1411, 1412, 1413, 1414] (by decide +kernel) (by decide +kernel)
set_option maxRecDepth 20000 in
theorem gL_law_X10_worth : GoodIn wsL_law (wsV RL 81 RX10 yX10_worth wsX10_worth) := goodIn_app (goodIn_of _ (by decide +kernel)) ggL_law_X10_worth
set_option maxRecDepth 20000 in
theorem ggL_law_X9_round : GoodIn wsL_law wsX9_round := goodIn_r _ [991, 29, 22, 992, 993, 861, 862, 863, 2, 864, 205, 511, 794, 534, 535, 47, 536, 224, 865, 866, 867, 28, 868, 869, 113, 114, 870, 871, 872, 873, 115, 874, 875, 640, 641, 36, 642, 101, 876, 877, 878, 879, 120, 880, 881, 882, 883, 117, 884, 118, 885, 119, 886, 887, 888, 889, 890, 891, 892, 58, 893, 894, 214, 895, 59, 896, 897, 898, 899, 900, 901, 902, 903, 904, 905, 906, 907, 122, 121, 908, 213, 215, 909, 910, 911, 912, 913, 914, 915, 916, 917, 918, 919, 920, 921, 922, 923, 924, 123, 925, 926, 561, 927, 928, 929, 930, 931, 932, 933, 934, 935, 936, 937, 938, 939, 940, 941, 942, 943, 944, 112, 1364, 1365, 1366, 1367, 1368, 1369, 1370, 1371, 1372, 1373, 1433, 1434, 1435, 1436, 1437, 1438, 1439, 1440, 1441, 1442, 1443, 1444, 1445, 1446, 1447, 1448, 1449, 1425, 1426, 1427, 1428, 1429, 1430, 1431, 1432, 1473, 1474, 1475, 1476, 1477, 1478, 1479, 1480, 1481, 1482, 1483, 1484, 1461, 1462, 1463, 1464, 1465, 1466, 1467, 1468] (by decide +kernel) (by decide +kernel)
set_option maxRecDepth 20000 in
theorem gL_law_X9_round : GoodIn wsL_law (wsV RL 82 RX9 yX9_round wsX9_round) := goodIn_app (goodIn_of _ (by decide +kernel)) ggL_law_X9_round
set_option maxRecDepth 20000 in
theorem ggL_law_X10_round : GoodIn wsL_law wsX10_round := goodIn_r _ [997, 960, 157, 950, 951, 952, 5, 953, 954, 578, 579, 580, 581, 144, 195, 196, 197, 517, 518, 519, 520, 955, 956, 957, 958, 959, 961, 949, 154, 153, 962, 963, 964, 965, 966, 967, 968, 969, 155, 705, 706, 707, 708, 970, 971, 972, 973, 156, 598, 599, 600, 974, 975, 976, 977, 978, 918, 214, 919, 979, 980, 981, 982, 983, 894, 895, 494, 495, 496, 497, 984, 985, 986, 987, 609, 610, 611, 998, 999, 1000, 1001, 1374, 1375, 1376, 1377, 1378, 1379, 1380, 1381, 1382, 1383, 1384, 1385, 1386, 1387, 1388, 1389, 1390, 1391, 1392, 1393, 1394, 1395, 1396, 1397, 1398, 1399, 1400, 1401, 1402, 1403, 1404, 1405, 1406, 1407, 1408, 1409, 1410, 1411, 1412, 1413, 1414] (by decide +kernel) (by decide +kernel)
set_option maxRecDepth 20000 in
theorem gL_law_X10_round : GoodIn wsL_law (wsV RL 85 RX10 yX10_round wsX10_round) := goodIn_app (goodIn_of _ (by decide +kernel)) ggL_law_X10_round
set_option maxRecDepth 20000 in
theorem ggL_law_X9_over : GoodIn wsL_law wsX9_over := goodIn_r _ [1005, 29, 22, 1006, 861, 862, 863, 2, 864, 205, 511, 794, 534, 535, 47, 536, 224, 865, 866, 867, 28, 868, 869, 113, 114, 870, 871, 872, 873, 115, 874, 875, 640, 641, 36, 642, 101, 876, 877, 878, 879, 120, 880, 881, 882, 883, 117, 884, 118, 885, 119, 886, 887, 888, 889, 890, 891, 892, 58, 893, 894, 214, 895, 59, 896, 897, 898, 899, 900, 901, 902, 903, 904, 905, 906, 907, 122, 121, 908, 213, 215, 909, 910, 911, 912, 913, 914, 915, 916, 917, 918, 919, 920, 921, 922, 923, 924, 123, 925, 926, 561, 927, 928, 929, 930, 931, 932, 933, 934, 935, 936, 937, 938, 939, 940, 941, 942, 943, 944, 112, 1364, 1365, 1366, 1367, 1368, 1369, 1370, 1371, 1372, 1373, 1433, 1434, 1435, 1436, 1437, 1438, 1439, 1440, 1441, 1442, 1443, 1444, 1445, 1446, 1447, 1448, 1449, 1425, 1426, 1427, 1428, 1429, 1430, 1431, 1432, 1473, 1474, 1475, 1476, 1477, 1478, 1479, 1480, 1481, 1482, 1483, 1484, 1461, 1462, 1463, 1464, 1465, 1466, 1467, 1468] (by decide +kernel) (by decide +kernel)
set_option maxRecDepth 20000 in
theorem gL_law_X9_over : GoodIn wsL_law (wsV RL 86 RX9 yX9_over wsX9_over) := goodIn_app (goodIn_of _ (by decide +kernel)) ggL_law_X9_over
set_option maxRecDepth 20000 in
theorem ggL_law_X10_over : GoodIn wsL_law wsX10_over := goodIn_r _ [1010, 961, 950, 951, 952, 5, 953, 954, 578, 579, 580, 581, 144, 195, 196, 197, 517, 518, 519, 520, 955, 956, 957, 958, 959, 960, 949, 154, 153, 962, 963, 964, 965, 966, 967, 968, 969, 155, 705, 706, 707, 708, 970, 971, 972, 973, 156, 598, 599, 600, 974, 975, 976, 977, 978, 918, 214, 919, 979, 980, 981, 982, 983, 894, 895, 494, 495, 496, 497, 984, 985, 986, 987, 1374, 1375, 1376, 1377, 1378, 1379, 1380, 1381, 1382, 1383, 1384, 1385, 1386, 1387, 1388, 1389, 1390, 1391, 1392, 1393, 1394, 1395, 1396, 1397, 1398, 1399, 1400, 1401, 1402, 1403, 1404, 1405, 1406, 1407, 1408, 1409, 1410, 1411, 1412, 1413, 1414] (by decide +kernel) (by decide +kernel)
set_option maxRecDepth 20000 in
theorem gL_law_X10_over : GoodIn wsL_law (wsV RL 89 RX10 yX10_over wsX10_over) := goodIn_app (goodIn_of _ (by decide +kernel)) ggL_law_X10_over
set_option maxRecDepth 20000 in
theorem ggL_law_X9_may : GoodIn wsL_law wsX9_may := goodIn_r _ [1014, 25, 755, 29, 22, 757, 758, 2, 759, 861, 862, 863, 864, 205, 511, 794, 534, 535, 47, 536, 224, 1015, 1016, 1017, 28, 1018, 1019, 871, 873, 1020, 761, 762, 41, 763, 764, 139, 765, 1021, 875, 640, 641, 36, 642, 101, 900, 901, 902, 903, 886, 887, 888, 880, 881, 882, 883, 117, 884, 118, 885, 119, 889, 890, 891, 892, 58, 893, 894, 214, 895, 59, 913, 914, 915, 916, 917, 918, 919, 1364, 1365, 1366, 1367, 1368, 1369, 1370, 1371, 1372, 1373, 1469, 1470, 1471, 1472, 1425, 1426, 1427, 1428, 1429, 1430, 1431, 1432, 1473, 1474, 1475, 1476, 1477, 1478, 1479, 1480, 1481, 1482, 1483, 1484, 1461, 1462, 1463, 1464, 1465, 1466, 1467, 1468, 1433, 1434, 1435, 1436, 1437, 1438, 1439, 1440, 1441, 1442, 1443, 1444, 1445, 1446, 1447, 1448, 1449] (by decide +kernel) (by decide +kernel)
set_option maxRecDepth 20000 in
theorem gL_law_X9_may : GoodIn wsL_law (wsV RL 90 RX9 yX9_may wsX9_may) := goodIn_app (goodIn_of _ (by decide +kernel)) ggL_law_X9_may
set_option maxRecDepth 20000 in
theorem ggL_law_X10_may : GoodIn wsL_law wsX10_may := goodIn_r _ [1025, 169, 171, 144, 154, 774, 775, 5, 776, 585, 195, 196, 197, 950, 951, 952, 953, 954, 578, 579, 580, 581, 517, 518, 519, 520, 966, 967, 968, 969, 155, 705, 706, 707, 708, 598, 599, 600, 974, 975, 976, 977, 978, 918, 214, 919, 979, 980, 981, 982, 983, 894, 895, 494, 495, 496, 497, 1374, 1375, 1376, 1377, 1378, 1379, 1380, 1381, 1382, 1383, 1384, 1385, 1386, 1387, 1388, 1389, 1390, 1391, 1392, 1393, 1394, 1395, 1396, 1397, 1398, 1399, 1400, 1401, 1402, 1403, 1404, 1405, 1406, 1407, 1408, 1409, 1410, 1411, 1412, 1413, 1414] (by decide +kernel) (by decide +kernel)
set_option maxRecDepth 20000 in
theorem gL_law_X10_may : GoodIn wsL_law (wsV RL 93 RX10 yX10_may wsX10_may) := goodIn_app (goodIn_of _ (by decide +kernel)) ggL_law_X10_may
set_option maxRecDepth 20000 in
theorem ggL_law_X9_fewest : GoodIn wsL_law wsX9_fewest := goodIn_r _ [1029, 22, 205, 29, 794, 534, 535, 47, 536, 224, 1030, 1031, 1032, 28, 1033, 869, 113, 870, 123, 1034, 1035, 1036, 1037, 1038, 873, 115, 1039, 116, 1040, 908, 213, 214, 215, 1041, 808, 809, 36, 810, 100, 393, 95, 876, 877, 878, 879, 120, 871, 880, 881, 882, 883, 117, 884, 118, 885, 119, 886, 887, 888, 875, 640, 641, 642, 101, 889, 890, 891, 892, 58, 893, 894, 895, 59, 904, 905, 906, 907, 122, 121, 909, 910, 911, 912, 913, 914, 915, 916, 917, 918, 919, 896, 897, 898, 899, 900, 901, 902, 903, 1042, 1043, 1044, 1045, 1046, 1047, 1048, 1049, 1364, 1365, 1366, 1367, 1368, 1369, 1370, 1371, 1372, 1373, 1425, 1426, 1427, 1428, 1429, 1430, 1431, 1432, 1473, 1474, 1475, 1476, 1477, 1478, 1479, 1480, 1481, 1482, 1483, 1484, 1433, 1434, 1435, 1436, 1437, 1438, 1439, 1440, 1441, 1442, 1443, 1444, 1445, 1446, 1447, 1448, 1449, 1461, 1462, 1463, 1464, 1465, 1466, 1467, 1468] (by decide +kernel) (by decide +kernel)
set_option maxRecDepth 20000 in
theorem gL_law_X9_fewest : GoodIn wsL_law (wsV RL 94 RX9 yX9_fewest wsX9_fewest) := goodIn_app (goodIn_of _ (by decide +kernel)) ggL_law_X9_fewest
set_option maxRecDepth 20000 in
theorem ggL_law_X10_fewest : GoodIn wsL_law wsX10_fewest := goodIn_r _ [1053, 1054, 159, 419, 213, 214, 215, 959, 160, 578, 579, 580, 5, 581, 144, 195, 196, 197, 1055, 1056, 1057, 1058, 158, 153, 966, 967, 968, 969, 154, 155, 705, 706, 707, 708, 598, 599, 600, 517, 518, 519, 520, 970, 971, 972, 973, 156, 974, 975, 976, 977, 978, 918, 919, 979, 980, 981, 982, 983, 894, 895, 494, 495, 496, 497, 984, 985, 986, 987, 1059, 1060, 1061, 1062, 1374, 1375, 1376, 1377, 1378, 1379, 1380, 1381, 1382, 1383, 1384, 1385, 1386, 1387, 1388, 1389, 1390, 1391, 1392, 1393, 1394, 1395, 1396, 1397, 1398, 1399, 1400, 1401, 1402, 1403, 1404, 1405, 1406, 1407, 1408, 1409, 1410, 1411, 1412, 1413, 1414] (by decide +kernel) (by decide +kernel)
set_option maxRecDepth 20000 in
theorem gL_law_X10_fewest : GoodIn wsL_law (wsV RL 97 RX10 yX10_fewest wsX10_fewest) := goodIn_app (goodIn_of _ (by decide +kernel)) ggL_law_X10_fewest
set_option maxRecDepth 20000 in
theorem ggL_law_X9_lost : GoodIn wsL_law wsX9_lost := goodIn_r _ [1066, 22, 205, 29, 794, 534, 535, 47, 536, 224, 1067, 1068, 1069, 28, 1070, 873, 1039, 1040, 1041, 808, 809, 36, 810, 100, 393, 95, 1071, 1072, 1073, 1074, 871, 1034, 880, 881, 882, 883, 117, 884, 118, 885, 119, 886, 887, 888, 875, 640, 641, 642, 101, 889, 890, 891, 892, 58, 893, 894, 214, 895, 59, 913, 914, 915, 916, 917, 918, 919, 900, 901, 902, 903, 1364, 1365, 1366, 1367, 1368, 1369, 1370, 1371, 1372, 1373, 1425, 1426, 1427, 1428, 1429, 1430, 1431, 1432, 1473, 1474, 1475, 1476, 1477, 1478, 1479, 1480, 1481, 1482, 1483, 1484, 1461, 1462, 1463, 1464, 1465, 1466, 1467, 1468, 1433, 1434, 1435, 1436, 1437, 1438, 1439, 1440, 1441, 1442, 1443, 1444, 1445, 1446, 1447, 1448, 1449] (by decide +kernel) (by decide +kernel)
set_option maxRecDepth 20000 in
theorem gL_law_X9_lost : GoodIn wsL_law (wsV RL 98 RX9 yX9_lost wsX9_lost) := goodIn_app (goodIn_of _ (by decide +kernel)) ggL_law_X9_lost
set_option maxRecDepth 20000 in
theorem ggL_law_X10_lost : GoodIn wsL_law wsX10_lost := goodIn_r _ [1078, 1054, 419, 213, 214, 215, 158, 578, 579, 580, 5, 581, 144, 195, 196, 197, 1055, 1056, 1057, 1058, 959, 153, 966, 967, 968, 969, 154, 155, 705, 706, 707, 708, 598, 599, 600, 517, 518, 519, 520, 974, 975, 976, 977, 978, 918, 919, 979, 980, 981, 982, 983, 894, 895, 494, 495, 496, 497, 1374, 1375, 1376, 1377, 1378, 1379, 1380, 1381, 1382, 1383, 1384, 1385, 1386, 1387, 1388, 1389, 1390, 1391, 1392, 1393, 1394, 1395, 1396, 1397, 1398, 1399, 1400, 1401, 1402, 1403, 1404, 1405, 1406, 1407, 1408, 1409, 1410, 1411, 1412, 1413, 1414] (by decide +kernel) (by decide +kernel)
set_option maxRecDepth 20000 in
theorem gL_law_X10_lost : GoodIn wsL_law (wsV RL 101 RX10 yX10_lost wsX10_lost) := goodIn_app (goodIn_of _ (by decide +kernel)) ggL_law_X10_lost
set_option maxRecDepth 20000 in
theorem ggL_law_X9_soon : GoodIn wsL_law wsX9_soon := goodIn_r _ [1082, 22, 205, 33, 1083, 529, 530, 531, 47, 532, 533, 534, 535, 536, 224, 1084, 1085, 1086, 32, 1087, 1088, 128, 129, 1089, 1090, 1091, 552, 553, 21, 554, 90, 1092, 1093, 1094, 1095, 1096, 1097, 1098, 1099, 543, 544, 545, 64, 1100, 560, 561, 562, 563, 564, 565, 1101, 1102, 1103, 1104, 1105, 130, 131, 132, 1106, 1107, 1108, 1109, 1110, 1111, 1112, 1113, 134, 133, 1114, 1115, 1116, 1117, 127, 1364, 1365, 1366, 1367, 1368, 1369, 1370, 1371, 1372, 1373, 1425, 1426, 1427, 1428, 1429, 1430, 1431, 1432, 1450, 1451, 1452, 1453, 1454, 1455, 1456, 1457, 1458, 1459, 1460, 1473, 1474, 1475, 1476, 1477, 1478, 1479, 1480, 1481, 1482, 1483, 1484] (by decide +kernel) (by decide +kernel)
set_option maxRecDepth 20000 in
theorem gL_law_X9_soon : GoodIn wsL_law (wsV RL 102 RX9 yX9_soon wsX9_soon) := goodIn_app (goodIn_of _ (by decide +kernel)) ggL_law_X9_soon
set_option maxRecDepth 20000 in
theorem ggL_law_X10_soon : GoodIn wsL_law wsX10_soon := goodIn_r _ [1121, 1122, 574, 575, 576, 5, 577, 578, 579, 580, 581, 144, 195, 196, 197, 594, 595, 596, 597, 598, 599, 600, 1123, 1124, 1125, 1126, 165, 162, 164, 163, 517, 518, 519, 520, 590, 591, 592, 593, 494, 495, 496, 497, 605, 606, 607, 608, 609, 610, 611, 1127, 1128, 1129, 1130, 166, 1374, 1375, 1376, 1377, 1378, 1379, 1380, 1381, 1382, 1383, 1384, 1385, 1386, 1387, 1388, 1389, 1390, 1391, 1392, 1393, 1394, 1395, 1396, 1397, 1398, 1399, 1400, 1401, 1402, 1403, 1404, 1405, 1406, 1407, 1408, 1409, 1410, 1411, 1412, 1413, 1414] (by decide +kernel) (by decide +kernel)
set_option maxRecDepth 20000 in
theorem gL_law_X10_soon : GoodIn wsL_law (wsV RL 105 RX10 yX10_soon wsX10_soon) := goodIn_app (goodIn_of _ (by decide +kernel)) ggL_law_X10_soon
set_option maxRecDepth 20000 in
theorem ggL_law_X9_path : GoodIn wsL_law wsX9_path := goodIn_r _ [1134, 22, 205, 33, 1083, 1135, 529, 530, 531, 47, 532, 533, 534, 535, 536, 224, 1084, 1085, 1086, 32, 1087, 1088, 128, 129, 1089, 1090, 1091, 552, 553, 21, 554, 90, 1092, 1093, 1094, 1095, 1096, 1097, 1098, 1099, 543, 544, 545, 64, 1100, 560, 561, 562, 563, 564, 565, 1101, 1102, 1103, 1104, 1105, 130, 131, 132, 1106, 1107, 1108, 1109, 1110, 1111, 1112, 1113, 134, 133, 1114, 1115, 1116, 1117, 127, 1364, 1365, 1366, 1367, 1368, 1369, 1370, 1371, 1372, 1373, 1425, 1426, 1427, 1428, 1429, 1430, 1431, 1432, 1450, 1451, 1452, 1453, 1454, 1455, 1456, 1457, 1458, 1459, 1460, 1473, 1474, 1475, 1476, 1477, 1478, 1479, 1480, 1481, 1482, 1483, 1484] (by decide +kernel) (by decide +kernel)
set_option maxRecDepth 20000 in
theorem gL_law_X9_path : GoodIn wsL_law (wsV RL 106 RX9 yX9_path wsX9_path) := goodIn_app (goodIn_of _ (by decide +kernel)) ggL_law_X9_path
set_option maxRecDepth 20000 in
theorem ggL_law_X10_path : GoodIn wsL_law wsX10_path := goodIn_r _ [1139, 1122, 166, 574, 575, 576, 5, 577, 578, 579, 580, 581, 144, 195, 196, 197, 594, 595, 596, 597, 598, 599, 600, 1123, 1124, 1125, 1126, 165, 162, 164, 163, 517, 518, 519, 520, 590, 591, 592, 593, 494, 495, 496, 497, 605, 606, 607, 608, 609, 610, 611, 1127, 1128, 1129, 1130, 1374, 1375, 1376, 1377, 1378, 1379, 1380, 1381, 1382, 1383, 1384, 1385, 1386, 1387, 1388, 1389, 1390, 1391, 1392, 1393, 1394, 1395, 1396, 1397, 1398, 1399, 1400, 1401, 1402, 1403, 1404, 1405, 1406, 1407, 1408, 1409, 1410, 1411, 1412, 1413, 1414] (by decide +kernel) (by decide +kernel)
set_option maxRecDepth 20000 in
theorem gL_law_X10_path : GoodIn wsL_law (wsV RL 109 RX10 yX10_path wsX10_path) := goodIn_app (goodIn_of _ (by decide +kernel)) ggL_law_X10_path
set_option maxRecDepth 20000 in
theorem ggL_law_X9_reach : GoodIn wsL_law wsX9_reach := goodIn_r _ [1143, 22, 205, 794, 534, 535, 47, 536, 224, 1144, 1145, 1146, 21, 1147, 90, 1364, 1365, 1366, 1367, 1368, 1369, 1370, 1371, 1372, 1373, 1425, 1426, 1427, 1428, 1429, 1430, 1431, 1432, 1473, 1474, 1475, 1476, 1477, 1478, 1479, 1480, 1481, 1482, 1483, 1484] (by decide +kernel) (by decide +kernel)
set_option maxRecDepth 20000 in
theorem gL_law_X9_reach : GoodIn wsL_law (wsV RL 110 RX9 yX9_reach wsX9_reach) := goodIn_app (goodIn_of _ (by decide +kernel)) ggL_law_X9_reach
set_option maxRecDepth 20000 in
theorem ggL_law_X10_reach : GoodIn wsL_law wsX10_reach := goodIn_r _ [1151, 578, 579, 580, 5, 581, 144, 195, 196, 197, 1152, 1153, 1154, 1155, 598, 599, 600, 1374, 1375, 1376, 1377, 1378, 1379, 1380, 1381, 1382, 1383, 1384, 1385, 1386, 1387, 1388, 1389, 1390, 1391, 1392, 1393, 1394, 1395, 1396, 1397, 1398, 1399, 1400, 1401, 1402, 1403, 1404, 1405, 1406, 1407, 1408, 1409, 1410, 1411, 1412, 1413, 1414] (by decide +kernel) (by decide +kernel)
set_option maxRecDepth 20000 in
theorem gL_law_X10_reach : GoodIn wsL_law (wsV RL 113 RX10 yX10_reach wsX10_reach) := goodIn_app (goodIn_of _ (by decide +kernel)) ggL_law_X10_reach
set_option maxRecDepth 20000 in
theorem ggL_law_X9_drop : GoodIn wsL_law wsX9_drop := goodIn_r _ [1159, 22, 205, 206, 839, 794, 534, 535, 47, 536, 224, 1160, 1161, 1162, 21, 1163, 85, 551, 552, 553, 554, 90, 673, 640, 641, 36, 642, 101, 1164, 1165, 1166, 1167, 1168, 1145, 1146, 1147, 1364, 1365, 1366, 1367, 1368, 1369, 1370, 1371, 1372, 1373, 1425, 1426, 1427, 1428, 1429, 1430, 1431, 1432, 1473, 1474, 1475, 1476, 1477, 1478, 1479, 1480, 1481, 1482, 1483, 1484, 1461, 1462, 1463, 1464, 1465, 1466, 1467, 1468] (by decide +kernel) (by decide +kernel)
set_option maxRecDepth 20000 in
theorem gL_law_X9_drop : GoodIn wsL_law (wsV RL 114 RX9 yX9_drop wsX9_drop) := goodIn_app (goodIn_of _ (by decide +kernel)) ggL_law_X9_drop
set_option maxRecDepth 20000 in
theorem ggL_law_X10_drop : GoodIn wsL_law wsX10_drop := goodIn_r _ [1172, 144, 154, 578, 579, 580, 5, 581, 195, 196, 197, 966, 967, 968, 969, 155, 705, 706, 707, 708, 1152, 1153, 1154, 1155, 598, 599, 600, 609, 610, 611, 594, 595, 596, 597, 494, 495, 496, 497, 1374, 1375, 1376, 1377, 1378, 1379, 1380, 1381, 1382, 1383, 1384, 1385, 1386, 1387, 1388, 1389, 1390, 1391, 1392, 1393, 1394, 1395, 1396, 1397, 1398, 1399, 1400, 1401, 1402, 1403, 1404, 1405, 1406, 1407, 1408, 1409, 1410, 1411, 1412, 1413, 1414] (by decide +kernel) (by decide +kernel)
set_option maxRecDepth 20000 in
theorem gL_law_X10_drop : GoodIn wsL_law (wsV RL 117 RX10 yX10_drop wsX10_drop) := goodIn_app (goodIn_of _ (by decide +kernel)) ggL_law_X10_drop
set_option maxRecDepth 20000 in
theorem ggL_law_X9_tie : GoodIn wsL_law wsX9_tie := goodIn_r _ [1176, 22, 205, 529, 530, 531, 47, 532, 533, 534, 535, 536, 224, 783, 552, 553, 21, 554, 90, 1177, 1165, 1166, 1167, 1168, 1145, 1146, 1147, 1364, 1365, 1366, 1367, 1368, 1369, 1370, 1371, 1372, 1373, 1425, 1426, 1427, 1428, 1429, 1430, 1431, 1432, 1473, 1474, 1475, 1476, 1477, 1478, 1479, 1480, 1481, 1482, 1483, 1484] (by decide +kernel) (by decide +kernel)
set_option maxRecDepth 20000 in
theorem gL_law_X9_tie : GoodIn wsL_law (wsV RL 118 RX9 yX9_tie wsX9_tie) := goodIn_app (goodIn_of _ (by decide +kernel)) ggL_law_X9_tie
set_option maxRecDepth 20000 in
theorem ggL_law_X10_tie : GoodIn wsL_law wsX10_tie := goodIn_r _ [1181, 574, 575, 576, 5, 577, 578, 579, 580, 581, 144, 195, 196, 197, 594, 595, 596, 597, 598, 599, 600, 1152, 1153, 1154, 1155, 1374, 1375, 1376, 1377, 1378, 1379, 1380, 1381, 1382, 1383, 1384, 1385, 1386, 1387, 1388, 1389, 1390, 1391, 1392, 1393, 1394, 1395, 1396, 1397, 1398, 1399, 1400, 1401, 1402, 1403, 1404, 1405, 1406, 1407, 1408, 1409, 1410, 1411, 1412, 1413, 1414] (by decide +kernel) (by decide +kernel)
set_option maxRecDepth 20000 in
theorem gL_law_X10_tie : GoodIn wsL_law (wsV RL 121 RX10 yX10_tie wsX10_tie) := goodIn_app (goodIn_of _ (by decide +kernel)) ggL_law_X10_tie
set_option maxRecDepth 20000 in
theorem ggL_law_X9_rings : GoodIn wsL_law wsX9_rings := goodIn_r _ [1185, 22, 205, 206, 1186, 1187, 1188, 21, 1189, 91, 89, 371, 1190, 1191, 1192, 1193, 1194, 1195, 1196, 559, 560, 561, 562, 563, 564, 565, 1197, 926, 927, 928, 1364, 1365, 1366, 1367, 1368, 1369, 1370, 1371, 1372, 1373, 1425, 1426, 1427, 1428, 1429, 1430, 1431, 1432, 1473, 1474, 1475, 1476, 1477, 1478, 1479, 1480, 1481, 1482, 1483, 1484, 1495, 1496, 1497, 1498, 1499] (by decide +kernel) (by decide +kernel)
set_option maxRecDepth 20000 in
theorem gL_law_X9_rings : GoodIn wsL_law (wsV RL 122 RX9 yX9_rings wsX9_rings) := goodIn_app (goodIn_of _ (by decide +kernel)) ggL_law_X9_rings
set_option maxRecDepth 20000 in
theorem ggL_law_X10_rings : GoodIn wsL_law wsX10_rings := goodIn_r _ [1201, 144, 1202, 1203, 1204, 5, 1205, 167, 1206, 585, 195, 196, 197, 1207, 1208, 1209, 1210, 1211, 1212, 1213, 1214, 598, 599, 600, 609, 610, 611, 1374, 1375, 1376, 1377, 1378, 1379, 1380, 1381, 1382, 1383, 1384, 1385, 1386, 1387, 1388, 1389, 1390, 1391, 1392, 1393, 1394, 1395, 1396, 1397, 1398, 1399, 1400, 1401, 1402, 1403, 1404, 1405, 1406, 1407, 1408, 1409, 1410, 1411, 1412, 1413, 1414] (by decide +kernel) (by decide +kernel)
set_option maxRecDepth 20000 in
theorem gL_law_X10_rings : GoodIn wsL_law (wsV RL 125 RX10 yX10_rings wsX10_rings) := goodIn_app (goodIn_of _ (by decide +kernel)) ggL_law_X10_rings
set_option maxRecDepth 20000 in
theorem ggL_law_X9_ring : GoodIn wsL_law wsX9_ring := goodIn_r _ [1218, 22, 205, 794, 534, 535, 47, 536, 224, 1186, 1187, 1188, 21, 1189, 91, 89, 371, 1190, 1191, 1192, 1193, 1194, 1195, 1196, 559, 560, 561, 562, 563, 564, 565, 1364, 1365, 1366, 1367, 1368, 1369, 1370, 1371, 1372, 1373, 1425, 1426, 1427, 1428, 1429, 1430, 1431, 1432, 1473, 1474, 1475, 1476, 1477, 1478, 1479, 1480, 1481, 1482, 1483, 1484, 1495, 1496, 1497, 1498, 1499] (by decide +kernel) (by decide +kernel)
set_option maxRecDepth 20000 in
theorem gL_law_X9_ring : GoodIn wsL_law (wsV RL 126 RX9 yX9_ring wsX9_ring) := goodIn_app (goodIn_of _ (by decide +kernel)) ggL_law_X9_ring
set_option maxRecDepth 20000 in
theorem ggL_law_X10_ring : GoodIn wsL_law wsX10_ring := goodIn_r _ [1222, 578, 579, 580, 5, 581, 144, 195, 196, 197, 1202, 1203, 1204, 1205, 167, 1206, 585, 1207, 1208, 1209, 1210, 1211, 1212, 1213, 1214, 598, 599, 600, 609, 610, 611, 1374, 1375, 1376, 1377, 1378, 1379, 1380, 1381, 1382, 1383, 1384, 1385, 1386, 1387, 1388, 1389, 1390, 1391, 1392, 1393, 1394, 1395, 1396, 1397, 1398, 1399, 1400, 1401, 1402, 1403, 1404, 1405, 1406, 1407, 1408, 1409, 1410, 1411, 1412, 1413, 1414] (by decide +kernel) (by decide +kernel)
set_option maxRecDepth 20000 in
theorem gL_law_X10_ring : GoodIn wsL_law (wsV RL 129 RX10 yX10_ring wsX10_ring) := goodIn_app (goodIn_of _ (by decide +kernel)) ggL_law_X10_ring
set_option maxRecDepth 20000 in
theorem ggL_law_X9_house : GoodIn wsL_law wsX9_house := goodIn_r _ [1226, 22, 205, 1227, 1228, 1229, 839, 1230, 1231, 1232, 1233, 616, 794, 534, 535, 47, 536, 224, 1234, 1235, 1236, 88, 1237, 621, 107, 105, 1238, 1239, 1240, 1241, 106, 1364, 1365, 1366, 1367, 1368, 1369, 1370, 1371, 1372, 1373, 1425, 1426, 1427, 1428, 1429, 1430, 1431, 1432, 1473, 1474, 1475, 1476, 1477, 1478, 1479, 1480, 1481, 1482, 1483, 1484, 1495, 1496, 1497, 1498, 1499] (by decide +kernel) (by decide +kernel)
set_option maxRecDepth 20000 in
theorem gL_law_X9_house : GoodIn wsL_law (wsV RL 130 RX9 yX9_house wsX9_house) := goodIn_app (goodIn_of _ (by decide +kernel)) ggL_law_X9_house
set_option maxRecDepth 20000 in
theorem ggL_law_X10_house : GoodIn wsL_law wsX10_house := goodIn_r _ [1245, 1246, 1247, 144, 1206, 585, 578, 579, 580, 5, 581, 195, 196, 197, 494, 495, 496, 497, 1374, 1375, 1376, 1377, 1378, 1379, 1380, 1381, 1382, 1383, 1384, 1385, 1386, 1387, 1388, 1389, 1390, 1391, 1392, 1393, 1394, 1395, 1396, 1397, 1398, 1399, 1400, 1401, 1402, 1403, 1404, 1405, 1406, 1407, 1408, 1409, 1410, 1411, 1412, 1413, 1414] (by decide +kernel) (by decide +kernel)
set_option maxRecDepth 20000 in
theorem gL_law_X10_house : GoodIn wsL_law (wsV RL 133 RX10 yX10_house wsX10_house) := goodIn_app (goodIn_of _ (by decide +kernel)) ggL_law_X10_house
set_option maxRecDepth 20000 in
theorem ggL_law_X9_beside : GoodIn wsL_law wsX9_beside := goodIn_r _ [1251, 23, 22, 1252, 37, 39, 1253, 1254, 1255, 2, 1256, 1257, 1258, 1259, 21, 1260, 81, 372, 373, 374, 375, 376, 89, 371, 1191, 1192, 1190, 1261, 389, 390, 391, 36, 392, 393, 100, 101, 394, 227, 228, 229, 626, 627, 628, 629, 630, 631, 632, 633, 634, 213, 214, 215, 635, 636, 637, 638, 95, 96, 97, 639, 640, 641, 642, 643, 644, 645, 646, 98, 99, 647, 648, 649, 51, 650, 76, 234, 70, 651, 652, 653, 654, 74, 655, 656, 73, 75, 657, 658, 659, 660, 661, 662, 663, 664, 665, 666, 667, 668, 669, 670, 671, 672, 673, 674, 675, 676, 677, 682, 683, 684, 1364, 1365, 1366, 1367, 1368, 1369, 1370, 1371, 1372, 1373, 1425, 1426, 1427, 1428, 1429, 1430, 1431, 1432, 1461, 1462, 1463, 1464, 1465, 1466, 1467, 1468, 1473, 1474, 1475, 1476, 1477, 1478, 1479, 1480, 1481, 1482, 1483, 1484, 1495, 1496, 1497, 1498, 1499, 1485, 1486, 1487, 1488, 1489, 1490, 1491, 1492, 1493, 1494] (by decide +kernel) (by decide +kernel)
set_option maxRecDepth 20000 in
theorem gL_law_X9_beside : GoodIn wsL_law (wsV RL 134 RX9 yX9_beside wsX9_beside) := goodIn_app (goodIn_of _ (by decide +kernel)) ggL_law_X9_beside
set_option maxRecDepth 20000 in
theorem ggL_law_X10_beside : GoodIn wsL_law wsX10_beside := goodIn_r _ [1265, 1206, 147, 168, 144, 145, 195, 196, 5, 197, 494, 495, 496, 497, 693, 694, 695, 696, 419, 213, 214, 215, 697, 698, 699, 700, 701, 702, 703, 704, 705, 706, 707, 708, 709, 710, 711, 712, 594, 595, 596, 597, 598, 599, 600, 713, 714, 715, 716, 152, 717, 718, 719, 720, 721, 722, 723, 724, 725, 726, 727, 728, 729, 730, 731, 732, 733, 734, 735, 736, 737, 738, 1374, 1375, 1376, 1377, 1378, 1379, 1380, 1381, 1382, 1383, 1384, 1385, 1386, 1387, 1388, 1389, 1390, 1391, 1392, 1393, 1394, 1395, 1396, 1397, 1398, 1399, 1400, 1401, 1402, 1403, 1404, 1405, 1406, 1407, 1408, 1409, 1410, 1411, 1412, 1413, 1414] (by decide +kernel) (by decide +kernel)
set_option maxRecDepth 20000 in
theorem gL_law_X10_beside : GoodIn wsL_law (wsV RL 137 RX10 yX10_beside wsX10_beside) := goodIn_app (goodIn_of _ (by decide +kernel)) ggL_law_X10_beside
set_option maxRecDepth 20000 in
theorem ggL_law_X9_count : GoodIn wsL_law wsX9_count := goodIn_r _ [1269, 22, 205, 206, 1252, 1270, 511, 792, 1253, 616, 1271, 1272, 177, 1273, 1274, 1275, 1276, 1277, 36, 1278, 393, 98, 1279, 1280, 1281, 2, 1282, 25, 755, 1364, 1365, 1366, 1367, 1368, 1369, 1370, 1371, 1372, 1373, 1425, 1426, 1427, 1428, 1429, 1430, 1431, 1432, 1473, 1474, 1475, 1476, 1477, 1478, 1479, 1480, 1481, 1482, 1483, 1484, 1485, 1486, 1487, 1488, 1489, 1490, 1491, 1492, 1493, 1494, 1461, 1462, 1463, 1464, 1465, 1466, 1467, 1468, 1495, 1496, 1497, 1498, 1499, 1469, 1470, 1471, 1472] (by decide +kernel) (by decide +kernel)
set_option maxRecDepth 20000 in
theorem gL_law_X9_count : GoodIn wsL_law (wsV RL 138 RX9 yX9_count wsX9_count) := goodIn_app (goodIn_of _ (by decide +kernel)) ggL_law_X9_count
set_option maxRecDepth 20000 in
theorem ggL_law_X10_count : GoodIn wsL_law wsX10_count := goodIn_r _ [1286, 144, 186, 169, 517, 518, 519, 5, 520, 705, 706, 707, 708, 1374, 1375, 1376, 1377, 1378, 1379, 1380, 1381, 1382, 1383, 1384, 1385, 1386, 1387, 1388, 1389, 1390, 1391, 1392, 1393, 1394, 1395, 1396, 1397, 1398, 1399, 1400, 1401, 1402, 1403, 1404, 1405, 1406, 1407, 1408, 1409, 1410, 1411, 1412, 1413, 1414] (by decide +kernel) (by decide +kernel)
set_option maxRecDepth 20000 in
theorem gL_law_X10_count : GoodIn wsL_law (wsV RL 141 RX10 yX10_count wsX10_count) := goodIn_app (goodIn_of _ (by decide +kernel)) ggL_law_X10_count
set_option maxRecDepth 20000 in
theorem ggL_law_X9_keep : GoodIn wsL_law wsX9_keep := goodIn_r _ [1290, 23, 19, 20, 21, 22, 1254, 1255, 2, 1256, 77, 78, 79, 11, 12, 80, 46, 47, 81, 82, 50, 51, 83, 84, 35, 36, 85, 86, 87, 88, 89, 38, 90, 91, 54, 55, 56, 57, 58, 59, 60, 61, 62, 63, 64, 65, 66, 67, 68, 69, 70, 71, 72, 73, 74, 75, 76, 92, 93, 94, 95, 96, 97, 98, 99, 100, 101, 102, 103, 104, 105, 106, 107, 108, 1291, 1292, 1293, 1294, 373, 374, 375, 376, 377, 378, 379, 380, 381, 382, 224, 225, 383, 384, 385, 386, 387, 234, 235, 388, 1295, 1296, 1297, 1298, 393, 1299, 1300, 1301, 1302, 1303, 621, 1304, 1364, 1365, 1366, 1367, 1368, 1369, 1370, 1371, 1372, 1373, 1425, 1426, 1427, 1428, 1429, 1430, 1431, 1432, 1473, 1474, 1475, 1476, 1477, 1478, 1479, 1480, 1481, 1482, 1483, 1484, 1485, 1486, 1487, 1488, 1489, 1490, 1491, 1492, 1493, 1494, 1461, 1462, 1463, 1464, 1465, 1466, 1467, 1468, 1495, 1496, 1497, 1498, 1499] (by decide +kernel) (by decide +kernel)
set_option maxRecDepth 20000 in
theorem gL_law_X9_keep : GoodIn wsL_law (wsV RL 142 RX9 yX9_keep wsX9_keep) := goodIn_app (goodIn_of _ (by decide +kernel)) ggL_law_X9_keep
set_option maxRecDepth 20000 in
theorem ggL_law_X10_keep : GoodIn wsL_law wsX10_keep := goodIn_r _ [1308, 1206, 145, 144, 147, 195, 196, 5, 197, 1374, 1375, 1376, 1377, 1378, 1379, 1380, 1381, 1382, 1383, 1384, 1385, 1386, 1387, 1388, 1389, 1390, 1391, 1392, 1393, 1394, 1395, 1396, 1397, 1398, 1399, 1400, 1401, 1402, 1403, 1404, 1405, 1406, 1407, 1408, 1409, 1410, 1411, 1412, 1413, 1414] (by decide +kernel) (by decide +kernel)
set_option maxRecDepth 20000 in
theorem gL_law_X10_keep : GoodIn wsL_law (wsV RL 145 RX10 yX10_keep wsX10_keep) := goodIn_app (goodIn_of _ (by decide +kernel)) ggL_law_X10_keep
set_option maxRecDepth 20000 in
theorem ggL_law_X9_back : GoodIn wsL_law wsX9_back := goodIn_r _ [1312, 23, 22, 1254, 1255, 2, 1256, 1291, 1292, 1293, 21, 1294, 81, 83, 85, 89, 90, 373, 374, 375, 376, 377, 378, 379, 380, 381, 47, 382, 224, 225, 57, 58, 383, 59, 60, 61, 62, 63, 64, 65, 66, 384, 385, 386, 51, 387, 234, 235, 70, 388, 71, 72, 73, 74, 75, 1295, 1296, 1297, 36, 1298, 393, 95, 1299, 96, 97, 98, 99, 100, 101, 1300, 1301, 1302, 88, 1303, 621, 105, 1304, 106, 107, 108, 395, 396, 397, 398, 29, 399, 33, 400, 1364, 1365, 1366, 1367, 1368, 1369, 1370, 1371, 1372, 1373, 1425, 1426, 1427, 1428, 1429, 1430, 1431, 1432, 1473, 1474, 1475, 1476, 1477, 1478, 1479, 1480, 1481, 1482, 1483, 1484, 1485, 1486, 1487, 1488, 1489, 1490, 1491, 1492, 1493, 1494, 1461, 1462, 1463, 1464, 1465, 1466, 1467, 1468, 1495, 1496, 1497, 1498, 1499, 1433, 1434, 1435, 1436, 1437, 1438, 1439, 1440, 1441, 1442, 1443, 1444, 1445, 1446, 1447, 1448, 1449, 1450, 1451, 1452, 1453, 1454, 1455, 1456, 1457, 1458, 1459, 1460] (by decide +kernel) (by decide +kernel)
set_option maxRecDepth 20000 in
theorem gL_law_X9_back : GoodIn wsL_law (wsV RL 146 RX9 yX9_back wsX9_back) := goodIn_app (goodIn_of _ (by decide +kernel)) ggL_law_X9_back
set_option maxRecDepth 20000 in
theorem ggL_law_X10_back : GoodIn wsL_law wsX10_back := goodIn_r _ [1316, 1206, 147, 144, 145, 195, 196, 5, 197, 1374, 1375, 1376, 1377, 1378, 1379, 1380, 1381, 1382, 1383, 1384, 1385, 1386, 1387, 1388, 1389, 1390, 1391, 1392, 1393, 1394, 1395, 1396, 1397, 1398, 1399, 1400, 1401, 1402, 1403, 1404, 1405, 1406, 1407, 1408, 1409, 1410, 1411, 1412, 1413, 1414] (by decide +kernel) (by decide +kernel)
set_option maxRecDepth 20000 in
theorem gL_law_X10_back : GoodIn wsL_law (wsV RL 149 RX10 yX10_back wsX10_back) := goodIn_app (goodIn_of _ (by decide +kernel)) ggL_law_X10_back
set_option maxRecDepth 20000 in
theorem ggL_law_X9_row : GoodIn wsL_law wsX9_row := goodIn_r _ [1320, 25, 757, 758, 2, 759, 1321, 1322, 1323, 41, 1324, 1325, 1326, 764, 139, 1327, 1328, 228, 1329, 1364, 1365, 1366, 1367, 1368, 1369, 1370, 1371, 1372, 1373, 1469, 1470, 1471, 1472] (by decide +kernel) (by decide +kernel)
set_option maxRecDepth 20000 in
theorem gL_law_X9_row : GoodIn wsL_law (wsV RL 150 RX9 yX9_row wsX9_row) := goodIn_app (goodIn_of _ (by decide +kernel)) ggL_law_X9_row
set_option maxRecDepth 20000 in
theorem ggL_law_X10_row : GoodIn wsL_law wsX10_row := goodIn_r _ [1333, 585, 169, 170, 171, 774, 775, 5, 776, 195, 196, 197, 1374, 1375, 1376, 1377, 1378, 1379, 1380, 1381, 1382, 1383, 1384, 1385, 1386, 1387, 1388, 1389, 1390, 1391, 1392, 1393, 1394, 1395, 1396, 1397, 1398, 1399, 1400, 1401, 1402, 1403, 1404, 1405, 1406, 1407, 1408, 1409, 1410, 1411, 1412, 1413, 1414] (by decide +kernel) (by decide +kernel)
set_option maxRecDepth 20000 in
theorem gL_law_X10_row : GoodIn wsL_law (wsV RL 153 RX10 yX10_row wsX10_row) := goodIn_app (goodIn_of _ (by decide +kernel)) ggL_law_X10_row
set_option maxRecDepth 20000 in
theorem ggL_law_X9_write : GoodIn wsL_law wsX9_write := goodIn_r _ [1337, 25, 755, 756, 1338, 757, 758, 2, 759, 1339, 1340, 1341, 41, 1342, 1326, 1364, 1365, 1366, 1367, 1368, 1369, 1370, 1371, 1372, 1373, 1469, 1470, 1471, 1472] (by decide +kernel) (by decide +kernel)
set_option maxRecDepth 20000 in
theorem gL_law_X9_write : GoodIn wsL_law (wsV RL 156 RX9 yX9_write wsX9_write) := goodIn_app (goodIn_of _ (by decide +kernel)) ggL_law_X9_write
set_option maxRecDepth 20000 in
theorem ggL_law_X10_write : GoodIn wsL_law wsX10_write := goodIn_r _ [1346, 169, 171, 170, 774, 775, 5, 776, 585, 195, 196, 197, 1347, 1348, 1349, 1374, 1375, 1376, 1377, 1378, 1379, 1380, 1381, 1382, 1383, 1384, 1385, 1386, 1387, 1388, 1389, 1390, 1391, 1392, 1393, 1394, 1395, 1396, 1397, 1398, 1399, 1400, 1401, 1402, 1403, 1404, 1405, 1406, 1407, 1408, 1409, 1410, 1411, 1412, 1413, 1414] (by decide +kernel) (by decide +kernel)
set_option maxRecDepth 20000 in
theorem gL_law_X10_write : GoodIn wsL_law (wsV RL 160 RX10 yX10_write wsX10_write) := goodIn_app (goodIn_of _ (by decide +kernel)) ggL_law_X10_write
set_option maxRecDepth 20000 in
theorem ggL_law_X9_paste : GoodIn wsL_law wsX9_paste := goodIn_r _ [1353, 25, 755, 1354, 1338, 1355, 374, 375, 376, 757, 758, 2, 759, 1356, 1357, 1358, 41, 1359, 764, 1364, 1365, 1366, 1367, 1368, 1369, 1370, 1371, 1372, 1373, 1469, 1470, 1471, 1472] (by decide +kernel) (by decide +kernel)
set_option maxRecDepth 20000 in
theorem gL_law_X9_paste : GoodIn wsL_law (wsV RL 161 RX9 yX9_paste wsX9_paste) := goodIn_app (goodIn_of _ (by decide +kernel)) ggL_law_X9_paste
set_option maxRecDepth 20000 in
theorem ggL_law_X10_paste : GoodIn wsL_law wsX10_paste := goodIn_r _ [1363, 169, 170, 172, 171, 774, 775, 5, 776, 585, 195, 196, 197, 1374, 1375, 1376, 1377, 1378, 1379, 1380, 1381, 1382, 1383, 1384, 1385, 1386, 1387, 1388, 1389, 1390, 1391, 1392, 1393, 1394, 1395, 1396, 1397, 1398, 1399, 1400, 1401, 1402, 1403, 1404, 1405, 1406, 1407, 1408, 1409, 1410, 1411, 1412, 1413, 1414] (by decide +kernel) (by decide +kernel)
set_option maxRecDepth 20000 in
theorem gL_law_X10_paste : GoodIn wsL_law (wsV RL 164 RX10 yX10_paste wsX10_paste) := goodIn_app (goodIn_of _ (by decide +kernel)) ggL_law_X10_paste
