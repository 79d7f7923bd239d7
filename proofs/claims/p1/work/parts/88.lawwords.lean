
set_option maxRecDepth 20000 in
theorem in_law_X0 : ∀ w ∈ u_ws RX0 TX0 2, w ∈ lw_tbl := fun w h => ((goodIn_r (big := lw_tbl) (u_ws RX0 TX0 2) [205, 207] (by decide +kernel) (by decide +kernel)) w h).1
set_option maxRecDepth 20000 in
theorem in_law_X1 : ∀ w ∈ u_ws RX1 TX1 3, w ∈ lw_tbl := fun w h => ((goodIn_r (big := lw_tbl) (u_ws RX1 TX1 3) [149, 151, 153] (by decide +kernel) (by decide +kernel)) w h).1
set_option maxRecDepth 20000 in
theorem in_law_X2 : ∀ w ∈ u_ws RX2 TX2 11, w ∈ lw_tbl := fun w h => ((goodIn_r (big := lw_tbl) (u_ws RX2 TX2 11) [249, 251, 253, 255, 257, 259, 261, 263, 265, 267, 269] (by decide +kernel) (by decide +kernel)) w h).1
set_option maxRecDepth 20000 in
theorem in_law_X3 : ∀ w ∈ u_ws RX3 TX3 8, w ∈ lw_tbl := fun w h => ((goodIn_r (big := lw_tbl) (u_ws RX3 TX3 8) [123, 125, 127, 129, 131, 133, 135, 137] (by decide +kernel) (by decide +kernel)) w h).1
set_option maxRecDepth 20000 in
theorem in_law_X4 : ∀ w ∈ u_ws RX4 TX4 8, w ∈ lw_tbl := fun w h => ((goodIn_r (big := lw_tbl) (u_ws RX4 TX4 8) [179, 181, 183, 185, 187, 189, 191, 193] (by decide +kernel) (by decide +kernel)) w h).1
set_option maxRecDepth 20000 in
theorem in_law_X5 : ∀ w ∈ u_ws RX5 TX5 4, w ∈ lw_tbl := fun w h => ((goodIn_r (big := lw_tbl) (u_ws RX5 TX5 4) [102, 104, 106, 108] (by decide +kernel) (by decide +kernel)) w h).1
set_option maxRecDepth 20000 in
theorem in_law_X6 : ∀ w ∈ u_ws RX6 TX6 9, w ∈ lw_tbl := fun w h => ((goodIn_r (big := lw_tbl) (u_ws RX6 TX6 9) [289, 291, 293, 295, 297, 299, 301, 303, 305] (by decide +kernel) (by decide +kernel)) w h).1
set_option maxRecDepth 20000 in
theorem in_law_X7 : ∀ w ∈ u_ws RX7 TX7 7, w ∈ lw_tbl := fun w h => ((goodIn_r (big := lw_tbl) (u_ws RX7 TX7 7) [316, 318, 320, 322, 324, 326, 328] (by decide +kernel) (by decide +kernel)) w h).1
set_option maxRecDepth 20000 in
theorem in_law_X8 : ∀ w ∈ u_ws RX8 TX8 48, w ∈ lw_tbl := fun w h => ((goodIn_r (big := lw_tbl) (u_ws RX8 TX8 48) [959, 961, 963, 965, 967, 969, 971, 973, 975, 977, 979, 981, 983, 985, 987, 989, 991, 993, 995, 997, 999, 1001, 1003, 1005, 1007, 1009, 1011, 1013, 1015, 1017, 1019, 1021, 1023, 1025, 1027, 1029, 1031, 1033, 1035, 1037, 1039, 1041, 1043, 1045, 1047, 1049, 1051, 1053] (by decide +kernel) (by decide +kernel)) w h).1
set_option maxRecDepth 20000 in
theorem gg_law_dm_init : GoodIn lw_tbl vs_dm_init := goodIn_r _ [82, 83, 84, 85, 111, 309, 86, 87, 62, 90, 91, 112, 114, 92, 93, 63, 96, 97, 98, 99, 100, 95, 118, 121, 89, 311, 140, 141, 64, 144, 145, 146, 143, 312, 156, 157, 65, 160, 161, 162, 163, 66, 166, 167, 171, 172, 173, 174, 175, 176, 178, 170, 168, 169, 67, 164, 165, 280, 196, 197, 68, 200, 201, 204, 199, 283, 272, 285, 286, 287, 210, 288, 212, 213, 69, 216, 217, 245, 247, 248, 220, 214, 215, 158, 159, 313, 314, 316, 318, 320, 322, 324, 326, 328, 123, 125, 127, 129, 131, 133, 135, 137, 102, 104, 106, 108, 149, 151, 153, 289, 291, 293, 295, 297, 299, 301, 303, 305, 179, 181, 183, 185, 187, 189, 191, 193, 205, 207, 249, 251, 253, 255, 257, 259, 261, 263, 265, 267, 269] (by decide +kernel) (by decide +kernel)
set_option maxRecDepth 20000 in
theorem gg_law_m_init : GoodIn lw_tbl vs_m_init := goodIn_r _ [905, 906, 84, 85, 597, 912, 1056, 914, 907, 111, 915, 916, 917, 918, 919, 920, 921, 922, 923, 924, 272, 925, 926, 927, 928, 929, 930, 931, 932, 933, 934, 935, 936, 937, 938, 939, 940, 947, 954, 955, 956, 958, 394, 1294, 398, 399, 1295, 395, 396, 397, 71, 909, 392, 393, 404, 408, 405, 406, 407, 411, 414, 415, 419, 417, 418, 73, 412, 413, 409, 410, 72, 910, 402, 403, 959, 961, 963, 965, 967, 969, 971, 973, 975, 977, 979, 981, 983, 985, 987, 989, 991, 993, 995, 997, 999, 1001, 1003, 1005, 1007, 1009, 1011, 1013, 1015, 1017, 1019, 1021, 1023, 1025, 1027, 1029, 1031, 1033, 1035, 1037, 1039, 1041, 1043, 1045, 1047, 1049, 1051, 1053] (by decide +kernel) (by decide +kernel)
set_option maxRecDepth 20000 in
theorem gg_law_x_feed : GoodIn lw_tbl vs_x_feed := goodIn_r _ [334, 310, 338, 309, 341, 339, 340, 61, 335, 337, 0, 316, 318, 320, 322, 324, 326, 328] (by decide +kernel) (by decide +kernel)
set_option maxRecDepth 20000 in
theorem g13_law_x_feed : GoodIn lw_tbl (wsV RL 13 RX7 yX7_feed vs_x_feed) := goodIn_app (goodIn_of _ (by decide +kernel)) gg_law_x_feed
set_option maxRecDepth 20000 in
theorem gg_law_m_feed : GoodIn lw_tbl vs_m_feed := goodIn_r _ [1060, 911, 913, 1064, 912, 1061, 1063, 24, 70, 959, 961, 963, 965, 967, 969, 971, 973, 975, 977, 979, 981, 983, 985, 987, 989, 991, 993, 995, 997, 999, 1001, 1003, 1005, 1007, 1009, 1011, 1013, 1015, 1017, 1019, 1021, 1023, 1025, 1027, 1029, 1031, 1033, 1035, 1037, 1039, 1041, 1043, 1045, 1047, 1049, 1051, 1053] (by decide +kernel) (by decide +kernel)
set_option maxRecDepth 20000 in
theorem g17_law_m_feed : GoodIn lw_tbl (wsV RL 17 RX8 yX8_feed vs_m_feed) := goodIn_app (goodIn_of _ (by decide +kernel)) gg_law_m_feed
set_option maxRecDepth 20000 in
theorem gg_law_x_end : GoodIn lw_tbl vs_x_end := goodIn_r _ [345, 310, 316, 318, 320, 322, 324, 326, 328] (by decide +kernel) (by decide +kernel)
set_option maxRecDepth 20000 in
theorem g18_law_x_end : GoodIn lw_tbl (wsV RL 18 RX7 yX7_end vs_x_end) := goodIn_app (goodIn_of _ (by decide +kernel)) gg_law_x_end
set_option maxRecDepth 20000 in
theorem gg_law_m_end : GoodIn lw_tbl vs_m_end := goodIn_r _ [1068, 911, 913, 1071, 1069, 1070, 70, 959, 961, 963, 965, 967, 969, 971, 973, 975, 977, 979, 981, 983, 985, 987, 989, 991, 993, 995, 997, 999, 1001, 1003, 1005, 1007, 1009, 1011, 1013, 1015, 1017, 1019, 1021, 1023, 1025, 1027, 1029, 1031, 1033, 1035, 1037, 1039, 1041, 1043, 1045, 1047, 1049, 1051, 1053] (by decide +kernel) (by decide +kernel)
set_option maxRecDepth 20000 in
theorem g22_law_m_end : GoodIn lw_tbl (wsV RL 22 RX8 yX8_end vs_m_end) := goodIn_app (goodIn_of _ (by decide +kernel)) gg_law_m_end
set_option maxRecDepth 20000 in
theorem gg_law_x_party : GoodIn lw_tbl vs_x_party := goodIn_r _ [349, 313, 353, 278, 341, 61, 340, 288, 358, 222, 226, 355, 356, 357, 69, 350, 351, 352, 65, 316, 318, 320, 322, 324, 326, 328, 289, 291, 293, 295, 297, 299, 301, 303, 305, 249, 251, 253, 255, 257, 259, 261, 263, 265, 267, 269] (by decide +kernel) (by decide +kernel)
set_option maxRecDepth 20000 in
theorem g23_law_x_party : GoodIn lw_tbl (wsV RL 23 RX7 yX7_party vs_x_party) := goodIn_app (goodIn_of _ (by decide +kernel)) gg_law_x_party
set_option maxRecDepth 20000 in
theorem gg_law_m_party : GoodIn lw_tbl vs_m_party := goodIn_r _ [1075, 911, 927, 1071, 1069, 1070, 70, 928, 929, 959, 961, 963, 965, 967, 969, 971, 973, 975, 977, 979, 981, 983, 985, 987, 989, 991, 993, 995, 997, 999, 1001, 1003, 1005, 1007, 1009, 1011, 1013, 1015, 1017, 1019, 1021, 1023, 1025, 1027, 1029, 1031, 1033, 1035, 1037, 1039, 1041, 1043, 1045, 1047, 1049, 1051, 1053] (by decide +kernel) (by decide +kernel)
set_option maxRecDepth 20000 in
theorem g27_law_m_party : GoodIn lw_tbl (wsV RL 27 RX8 yX8_party vs_m_party) := goodIn_app (goodIn_of _ (by decide +kernel)) gg_law_m_party
set_option maxRecDepth 20000 in
theorem gg_law_x_orders : GoodIn lw_tbl vs_x_orders := goodIn_r _ [362, 313, 366, 278, 341, 61, 340, 363, 364, 365, 65, 316, 318, 320, 322, 324, 326, 328, 289, 291, 293, 295, 297, 299, 301, 303, 305] (by decide +kernel) (by decide +kernel)
set_option maxRecDepth 20000 in
theorem g28_law_x_orders : GoodIn lw_tbl (wsV RL 28 RX7 yX7_orders vs_x_orders) := goodIn_app (goodIn_of _ (by decide +kernel)) gg_law_x_orders
set_option maxRecDepth 20000 in
theorem gg_law_m_orders : GoodIn lw_tbl vs_m_orders := goodIn_r _ [1079, 911, 927, 1071, 1069, 1070, 70, 959, 961, 963, 965, 967, 969, 971, 973, 975, 977, 979, 981, 983, 985, 987, 989, 991, 993, 995, 997, 999, 1001, 1003, 1005, 1007, 1009, 1011, 1013, 1015, 1017, 1019, 1021, 1023, 1025, 1027, 1029, 1031, 1033, 1035, 1037, 1039, 1041, 1043, 1045, 1047, 1049, 1051, 1053] (by decide +kernel) (by decide +kernel)
set_option maxRecDepth 20000 in
theorem g31_law_m_orders : GoodIn lw_tbl (wsV RL 31 RX8 yX8_orders vs_m_orders) := goodIn_app (goodIn_of _ (by decide +kernel)) gg_law_m_orders
set_option maxRecDepth 20000 in
theorem gg_law_x_fault : GoodIn lw_tbl vs_x_fault := goodIn_r _ [601, 311, 113, 115, 316, 318, 320, 322, 324, 326, 328, 123, 125, 127, 129, 131, 133, 135, 137] (by decide +kernel) (by decide +kernel)
set_option maxRecDepth 20000 in
theorem g32_law_x_fault : GoodIn lw_tbl (wsV RL 32 RX7 yX7_fault vs_x_fault) := goodIn_app (goodIn_of _ (by decide +kernel)) gg_law_x_fault
set_option maxRecDepth 20000 in
theorem gg_law_m_fault : GoodIn lw_tbl vs_m_fault := goodIn_r _ [1159, 911, 947, 946, 959, 961, 963, 965, 967, 969, 971, 973, 975, 977, 979, 981, 983, 985, 987, 989, 991, 993, 995, 997, 999, 1001, 1003, 1005, 1007, 1009, 1011, 1013, 1015, 1017, 1019, 1021, 1023, 1025, 1027, 1029, 1031, 1033, 1035, 1037, 1039, 1041, 1043, 1045, 1047, 1049, 1051, 1053] (by decide +kernel) (by decide +kernel)
set_option maxRecDepth 20000 in
theorem g35_law_m_fault : GoodIn lw_tbl (wsV RL 35 RX8 yX8_fault vs_m_fault) := goodIn_app (goodIn_of _ (by decide +kernel)) gg_law_m_fault
set_option maxRecDepth 20000 in
theorem gg_law_x_land : GoodIn lw_tbl vs_x_land := goodIn_r _ [605, 313, 609, 276, 341, 61, 340, 287, 280, 613, 173, 172, 177, 618, 178, 174, 175, 176, 615, 617, 14, 66, 171, 610, 611, 612, 283, 273, 623, 627, 202, 628, 447, 75, 448, 624, 626, 15, 68, 204, 620, 621, 622, 606, 607, 608, 65, 316, 318, 320, 322, 324, 326, 328, 289, 291, 293, 295, 297, 299, 301, 303, 305, 179, 181, 183, 185, 187, 189, 191, 193, 205, 207] (by decide +kernel) (by decide +kernel)
set_option maxRecDepth 20000 in
theorem g36_law_x_land : GoodIn lw_tbl (wsV RL 36 RX7 yX7_land vs_x_land) := goodIn_app (goodIn_of _ (by decide +kernel)) gg_law_x_land
set_option maxRecDepth 20000 in
theorem gg_law_m_land : GoodIn lw_tbl vs_m_land := goodIn_r _ [1163, 911, 918, 1071, 1069, 1070, 70, 919, 1171, 939, 940, 924, 1168, 1170, 43, 917, 916, 1167, 915, 920, 921, 922, 1164, 1166, 42, 959, 961, 963, 965, 967, 969, 971, 973, 975, 977, 979, 981, 983, 985, 987, 989, 991, 993, 995, 997, 999, 1001, 1003, 1005, 1007, 1009, 1011, 1013, 1015, 1017, 1019, 1021, 1023, 1025, 1027, 1029, 1031, 1033, 1035, 1037, 1039, 1041, 1043, 1045, 1047, 1049, 1051, 1053] (by decide +kernel) (by decide +kernel)
set_option maxRecDepth 20000 in
theorem g39_law_m_land : GoodIn lw_tbl (wsV RL 39 RX8 yX8_land vs_m_land) := goodIn_app (goodIn_of _ (by decide +kernel)) gg_law_m_land
set_option maxRecDepth 20000 in
theorem gg_law_x_storm : GoodIn lw_tbl vs_x_storm := goodIn_r _ [632, 313, 275, 636, 341, 61, 340, 285, 633, 634, 635, 65, 316, 318, 320, 322, 324, 326, 328, 289, 291, 293, 295, 297, 299, 301, 303, 305] (by decide +kernel) (by decide +kernel)
set_option maxRecDepth 20000 in
theorem g40_law_x_storm : GoodIn lw_tbl (wsV RL 40 RX7 yX7_storm vs_x_storm) := goodIn_app (goodIn_of _ (by decide +kernel)) gg_law_x_storm
set_option maxRecDepth 20000 in
theorem gg_law_m_storm : GoodIn lw_tbl vs_m_storm := goodIn_r _ [1175, 911, 1071, 1069, 1070, 70, 924, 925, 959, 961, 963, 965, 967, 969, 971, 973, 975, 977, 979, 981, 983, 985, 987, 989, 991, 993, 995, 997, 999, 1001, 1003, 1005, 1007, 1009, 1011, 1013, 1015, 1017, 1019, 1021, 1023, 1025, 1027, 1029, 1031, 1033, 1035, 1037, 1039, 1041, 1043, 1045, 1047, 1049, 1051, 1053] (by decide +kernel) (by decide +kernel)
set_option maxRecDepth 20000 in
theorem g44_law_m_storm : GoodIn lw_tbl (wsV RL 44 RX8 yX8_storm vs_m_storm) := goodIn_app (goodIn_of _ (by decide +kernel)) gg_law_m_storm
set_option maxRecDepth 20000 in
theorem gg_law_x_days : GoodIn lw_tbl vs_x_days := goodIn_r _ [640, 313, 644, 273, 641, 642, 643, 65, 275, 312, 648, 366, 278, 341, 61, 340, 649, 364, 365, 274, 645, 646, 647, 64, 316, 318, 320, 322, 324, 326, 328, 289, 291, 293, 295, 297, 299, 301, 303, 305] (by decide +kernel) (by decide +kernel)
set_option maxRecDepth 20000 in
theorem g45_law_x_days : GoodIn lw_tbl (wsV RL 45 RX7 yX7_days vs_x_days) := goodIn_app (goodIn_of _ (by decide +kernel)) gg_law_x_days
set_option maxRecDepth 20000 in
theorem gg_law_m_days : GoodIn lw_tbl vs_m_days := goodIn_r _ [1179, 911, 1183, 1071, 1069, 1070, 70, 924, 1180, 1182, 44, 1187, 927, 1184, 1186, 45, 959, 961, 963, 965, 967, 969, 971, 973, 975, 977, 979, 981, 983, 985, 987, 989, 991, 993, 995, 997, 999, 1001, 1003, 1005, 1007, 1009, 1011, 1013, 1015, 1017, 1019, 1021, 1023, 1025, 1027, 1029, 1031, 1033, 1035, 1037, 1039, 1041, 1043, 1045, 1047, 1049, 1051, 1053] (by decide +kernel) (by decide +kernel)
set_option maxRecDepth 20000 in
theorem g48_law_m_days : GoodIn lw_tbl (wsV RL 48 RX8 yX8_days vs_m_days) := goodIn_app (goodIn_of _ (by decide +kernel)) gg_law_m_days
set_option maxRecDepth 20000 in
theorem gg_law_x_ahead : GoodIn lw_tbl vs_x_ahead := goodIn_r _ [753, 313, 644, 273, 641, 642, 643, 65, 315, 156, 157, 160, 161, 84, 85, 162, 163, 66, 166, 167, 111, 171, 172, 173, 174, 175, 176, 178, 170, 168, 169, 67, 164, 165, 280, 196, 197, 68, 200, 201, 204, 199, 283, 272, 285, 286, 287, 210, 288, 212, 213, 69, 216, 217, 245, 247, 248, 220, 214, 215, 158, 159, 757, 276, 278, 761, 762, 592, 591, 77, 177, 758, 759, 760, 766, 202, 627, 628, 447, 75, 448, 624, 626, 15, 767, 763, 764, 765, 768, 772, 222, 226, 230, 233, 237, 241, 244, 773, 769, 770, 771, 754, 755, 756, 786, 790, 672, 341, 61, 340, 791, 670, 671, 787, 788, 789, 783, 784, 785, 782, 779, 780, 781, 275, 312, 648, 366, 649, 364, 365, 274, 645, 646, 647, 64, 777, 774, 775, 776, 316, 318, 320, 322, 324, 326, 328, 289, 291, 293, 295, 297, 299, 301, 303, 305, 179, 181, 183, 185, 187, 189, 191, 193, 205, 207, 249, 251, 253, 255, 257, 259, 261, 263, 265, 267, 269] (by decide +kernel) (by decide +kernel)
set_option maxRecDepth 20000 in
theorem g49_law_x_ahead : GoodIn lw_tbl (wsV RL 49 RX7 yX7_ahead vs_x_ahead) := goodIn_app (goodIn_of _ (by decide +kernel)) gg_law_x_ahead
set_option maxRecDepth 20000 in
theorem gg_law_m_ahead : GoodIn lw_tbl vs_m_ahead := goodIn_r _ [1230, 911, 1183, 1071, 1069, 1070, 70, 924, 1180, 1182, 44, 1234, 917, 1237, 1235, 1236, 918, 919, 920, 921, 922, 923, 926, 927, 928, 929, 930, 931, 932, 933, 934, 935, 936, 939, 940, 937, 938, 925, 1231, 1233, 55, 1245, 1242, 1244, 57, 1241, 1238, 1240, 56, 1187, 1184, 1186, 45, 959, 961, 963, 965, 967, 969, 971, 973, 975, 977, 979, 981, 983, 985, 987, 989, 991, 993, 995, 997, 999, 1001, 1003, 1005, 1007, 1009, 1011, 1013, 1015, 1017, 1019, 1021, 1023, 1025, 1027, 1029, 1031, 1033, 1035, 1037, 1039, 1041, 1043, 1045, 1047, 1049, 1051, 1053] (by decide +kernel) (by decide +kernel)
set_option maxRecDepth 20000 in
theorem g52_law_m_ahead : GoodIn lw_tbl (wsV RL 52 RX8 yX8_ahead vs_m_ahead) := goodIn_app (goodIn_of _ (by decide +kernel)) gg_law_m_ahead
set_option maxRecDepth 20000 in
theorem gg_law_x_tell : GoodIn lw_tbl vs_x_tell := goodIn_r _ [795, 313, 366, 278, 341, 61, 340, 363, 364, 365, 65, 316, 318, 320, 322, 324, 326, 328, 289, 291, 293, 295, 297, 299, 301, 303, 305] (by decide +kernel) (by decide +kernel)
set_option maxRecDepth 20000 in
theorem g53_law_x_tell : GoodIn lw_tbl (wsV RL 53 RX7 yX7_tell vs_x_tell) := goodIn_app (goodIn_of _ (by decide +kernel)) gg_law_x_tell
set_option maxRecDepth 20000 in
theorem gg_law_m_tell : GoodIn lw_tbl vs_m_tell := goodIn_r _ [1249, 911, 927, 1071, 1069, 1070, 70, 959, 961, 963, 965, 967, 969, 971, 973, 975, 977, 979, 981, 983, 985, 987, 989, 991, 993, 995, 997, 999, 1001, 1003, 1005, 1007, 1009, 1011, 1013, 1015, 1017, 1019, 1021, 1023, 1025, 1027, 1029, 1031, 1033, 1035, 1037, 1039, 1041, 1043, 1045, 1047, 1049, 1051, 1053] (by decide +kernel) (by decide +kernel)
set_option maxRecDepth 20000 in
theorem g56_law_m_tell : GoodIn lw_tbl (wsV RL 56 RX8 yX8_tell vs_m_tell) := goodIn_app (goodIn_of _ (by decide +kernel)) gg_law_m_tell
set_option maxRecDepth 20000 in
theorem gg_law_x_camp : GoodIn lw_tbl vs_x_camp := goodIn_r _ [814, 341, 339, 340, 61, 313, 282, 672, 173, 797, 670, 671, 66, 686, 286, 815, 684, 685, 65, 819, 278, 816, 817, 818, 727, 177, 171, 820, 725, 726, 316, 318, 320, 322, 324, 326, 328, 289, 291, 293, 295, 297, 299, 301, 303, 305, 179, 181, 183, 185, 187, 189, 191, 193] (by decide +kernel) (by decide +kernel)
set_option maxRecDepth 20000 in
theorem g57_law_x_camp : GoodIn lw_tbl (wsV RL 57 RX7 yX7_camp vs_x_camp) := goodIn_app (goodIn_of _ (by decide +kernel)) gg_law_x_camp
set_option maxRecDepth 20000 in
theorem gg_law_m_camp : GoodIn lw_tbl vs_m_camp := goodIn_r _ [1257, 911, 1071, 1069, 1070, 70, 922, 926, 927, 959, 961, 963, 965, 967, 969, 971, 973, 975, 977, 979, 981, 983, 985, 987, 989, 991, 993, 995, 997, 999, 1001, 1003, 1005, 1007, 1009, 1011, 1013, 1015, 1017, 1019, 1021, 1023, 1025, 1027, 1029, 1031, 1033, 1035, 1037, 1039, 1041, 1043, 1045, 1047, 1049, 1051, 1053] (by decide +kernel) (by decide +kernel)
set_option maxRecDepth 20000 in
theorem g60_law_m_camp : GoodIn lw_tbl (wsV RL 60 RX8 yX8_camp vs_m_camp) := goodIn_app (goodIn_of _ (by decide +kernel)) gg_law_m_camp
set_option maxRecDepth 20000 in
theorem gg_law_x_lot : GoodIn lw_tbl vs_x_lot := goodIn_r _ [824, 313, 277, 341, 339, 340, 61, 316, 318, 320, 322, 324, 326, 328, 289, 291, 293, 295, 297, 299, 301, 303, 305] (by decide +kernel) (by decide +kernel)
set_option maxRecDepth 20000 in
theorem g61_law_x_lot : GoodIn lw_tbl (wsV RL 61 RX7 yX7_lot vs_x_lot) := goodIn_app (goodIn_of _ (by decide +kernel)) gg_law_x_lot
set_option maxRecDepth 20000 in
theorem gg_law_m_lot : GoodIn lw_tbl vs_m_lot := goodIn_r _ [1261, 911, 918, 1071, 1069, 1070, 70, 959, 961, 963, 965, 967, 969, 971, 973, 975, 977, 979, 981, 983, 985, 987, 989, 991, 993, 995, 997, 999, 1001, 1003, 1005, 1007, 1009, 1011, 1013, 1015, 1017, 1019, 1021, 1023, 1025, 1027, 1029, 1031, 1033, 1035, 1037, 1039, 1041, 1043, 1045, 1047, 1049, 1051, 1053] (by decide +kernel) (by decide +kernel)
set_option maxRecDepth 20000 in
theorem g64_law_m_lot : GoodIn lw_tbl (wsV RL 64 RX8 yX8_lot vs_m_lot) := goodIn_app (goodIn_of _ (by decide +kernel)) gg_law_m_lot
set_option maxRecDepth 20000 in
theorem gg_law_x_line : GoodIn lw_tbl vs_x_line := goodIn_r _ [854, 313, 284, 858, 627, 202, 628, 447, 75, 448, 624, 626, 15, 68, 341, 61, 340, 855, 856, 857, 316, 318, 320, 322, 324, 326, 328, 289, 291, 293, 295, 297, 299, 301, 303, 305, 205, 207] (by decide +kernel) (by decide +kernel)
set_option maxRecDepth 20000 in
theorem g65_law_x_line : GoodIn lw_tbl (wsV RL 65 RX7 yX7_line vs_x_line) := goodIn_app (goodIn_of _ (by decide +kernel)) gg_law_x_line
set_option maxRecDepth 20000 in
theorem gg_law_m_line : GoodIn lw_tbl vs_m_line := goodIn_r _ [1269, 911, 1071, 1069, 1070, 70, 939, 959, 961, 963, 965, 967, 969, 971, 973, 975, 977, 979, 981, 983, 985, 987, 989, 991, 993, 995, 997, 999, 1001, 1003, 1005, 1007, 1009, 1011, 1013, 1015, 1017, 1019, 1021, 1023, 1025, 1027, 1029, 1031, 1033, 1035, 1037, 1039, 1041, 1043, 1045, 1047, 1049, 1051, 1053] (by decide +kernel) (by decide +kernel)
set_option maxRecDepth 20000 in
theorem g68_law_m_line : GoodIn lw_tbl (wsV RL 68 RX8 yX8_line vs_m_line) := goodIn_app (goodIn_of _ (by decide +kernel)) gg_law_m_line
set_option maxRecDepth 20000 in
theorem gg_law_x_count : GoodIn lw_tbl vs_x_count := goodIn_r _ [863, 313, 275, 279, 277, 284, 203, 867, 276, 864, 865, 866, 65, 871, 278, 868, 869, 870, 786, 280, 790, 672, 341, 61, 340, 173, 791, 670, 671, 66, 787, 788, 789, 783, 784, 785, 876, 873, 874, 875, 782, 779, 780, 781, 316, 318, 320, 322, 324, 326, 328, 289, 291, 293, 295, 297, 299, 301, 303, 305, 205, 207, 179, 181, 183, 185, 187, 189, 191, 193] (by decide +kernel) (by decide +kernel)
set_option maxRecDepth 20000 in
theorem g69_law_x_count : GoodIn lw_tbl (wsV RL 69 RX7 yX7_count vs_x_count) := goodIn_app (goodIn_of _ (by decide +kernel)) gg_law_x_count
set_option maxRecDepth 20000 in
theorem gg_law_m_count : GoodIn lw_tbl vs_m_count := goodIn_r _ [1273, 911, 924, 927, 918, 939, 917, 923, 1245, 922, 1242, 1244, 57, 70, 1241, 1238, 1240, 56, 959, 961, 963, 965, 967, 969, 971, 973, 975, 977, 979, 981, 983, 985, 987, 989, 991, 993, 995, 997, 999, 1001, 1003, 1005, 1007, 1009, 1011, 1013, 1015, 1017, 1019, 1021, 1023, 1025, 1027, 1029, 1031, 1033, 1035, 1037, 1039, 1041, 1043, 1045, 1047, 1049, 1051, 1053] (by decide +kernel) (by decide +kernel)
set_option maxRecDepth 20000 in
theorem g72_law_m_count : GoodIn lw_tbl (wsV RL 72 RX8 yX8_count vs_m_count) := goodIn_app (goodIn_of _ (by decide +kernel)) gg_law_m_count
set_option maxRecDepth 20000 in
theorem gg_law_x_need : GoodIn lw_tbl vs_x_need := goodIn_r _ [880, 883, 881, 882, 61, 341, 339, 340, 886, 887, 469, 75, 470, 884, 885] (by decide +kernel) (by decide +kernel)
set_option maxRecDepth 20000 in
theorem g73_law_x_need : GoodIn lw_tbl (wsV RL 73 RX7 yX7_need vs_x_need) := goodIn_app (goodIn_of _ (by decide +kernel)) gg_law_x_need
set_option maxRecDepth 20000 in
theorem gg_law_m_need : GoodIn lw_tbl vs_m_need := goodIn_r _ [1277, 911, 1071, 1069, 1070, 70, 1280, 1278, 1279, 959, 961, 963, 965, 967, 969, 971, 973, 975, 977, 979, 981, 983, 985, 987, 989, 991, 993, 995, 997, 999, 1001, 1003, 1005, 1007, 1009, 1011, 1013, 1015, 1017, 1019, 1021, 1023, 1025, 1027, 1029, 1031, 1033, 1035, 1037, 1039, 1041, 1043, 1045, 1047, 1049, 1051, 1053] (by decide +kernel) (by decide +kernel)
set_option maxRecDepth 20000 in
theorem g76_law_m_need : GoodIn lw_tbl (wsV RL 76 RX8 yX8_need_ vs_m_need) := goodIn_app (goodIn_of _ (by decide +kernel)) gg_law_m_need
set_option maxRecDepth 20000 in
theorem gg_law_x_far : GoodIn lw_tbl vs_x_far := goodIn_r _ [891, 883, 881, 882, 61, 892, 886, 887, 469, 75, 470, 884, 885] (by decide +kernel) (by decide +kernel)
set_option maxRecDepth 20000 in
theorem g77_law_x_far : GoodIn lw_tbl (wsV RL 77 RX7 yX7_far vs_x_far) := goodIn_app (goodIn_of _ (by decide +kernel)) gg_law_x_far
set_option maxRecDepth 20000 in
theorem gg_law_m_far : GoodIn lw_tbl vs_m_far := goodIn_r _ [1284, 911, 1071, 1069, 1070, 70, 1285, 1280, 1278, 1279, 959, 961, 963, 965, 967, 969, 971, 973, 975, 977, 979, 981, 983, 985, 987, 989, 991, 993, 995, 997, 999, 1001, 1003, 1005, 1007, 1009, 1011, 1013, 1015, 1017, 1019, 1021, 1023, 1025, 1027, 1029, 1031, 1033, 1035, 1037, 1039, 1041, 1043, 1045, 1047, 1049, 1051, 1053] (by decide +kernel) (by decide +kernel)
set_option maxRecDepth 20000 in
theorem g80_law_m_far : GoodIn lw_tbl (wsV RL 80 RX8 yX8_far vs_m_far) := goodIn_app (goodIn_of _ (by decide +kernel)) gg_law_m_far
set_option maxRecDepth 20000 in
theorem gg_law_x_image : GoodIn lw_tbl vs_x_image := goodIn_r _ [896, 341, 339, 340, 61, 314, 156, 157, 65, 160, 161, 84, 85, 162, 163, 66, 166, 167, 111, 171, 172, 173, 174, 175, 176, 178, 170, 168, 169, 67, 164, 165, 280, 196, 197, 68, 200, 201, 204, 199, 283, 272, 285, 286, 287, 210, 288, 212, 213, 69, 216, 217, 245, 247, 248, 220, 214, 215, 158, 159, 313, 757, 273, 276, 278, 761, 762, 592, 591, 77, 177, 758, 759, 760, 766, 202, 627, 628, 447, 75, 448, 624, 626, 15, 767, 763, 764, 765, 768, 772, 222, 226, 230, 233, 237, 241, 244, 773, 769, 770, 771, 754, 755, 756, 316, 318, 320, 322, 324, 326, 328, 289, 291, 293, 295, 297, 299, 301, 303, 305, 179, 181, 183, 185, 187, 189, 191, 193, 205, 207, 249, 251, 253, 255, 257, 259, 261, 263, 265, 267, 269] (by decide +kernel) (by decide +kernel)
set_option maxRecDepth 20000 in
theorem g81_law_x_image : GoodIn lw_tbl (wsV RL 81 RX7 yX7_image vs_x_image) := goodIn_app (goodIn_of _ (by decide +kernel)) gg_law_x_image
set_option maxRecDepth 20000 in
theorem gg_law_m_image : GoodIn lw_tbl vs_m_image := goodIn_r _ [1289, 911, 1071, 1069, 1070, 70, 1234, 917, 1237, 1235, 1236, 918, 919, 920, 921, 922, 923, 924, 926, 927, 928, 929, 930, 931, 932, 933, 934, 935, 936, 939, 940, 937, 938, 925, 1231, 1233, 55, 958, 959, 961, 963, 965, 967, 969, 971, 973, 975, 977, 979, 981, 983, 985, 987, 989, 991, 993, 995, 997, 999, 1001, 1003, 1005, 1007, 1009, 1011, 1013, 1015, 1017, 1019, 1021, 1023, 1025, 1027, 1029, 1031, 1033, 1035, 1037, 1039, 1041, 1043, 1045, 1047, 1049, 1051, 1053] (by decide +kernel) (by decide +kernel)
set_option maxRecDepth 20000 in
theorem g85_law_m_image : GoodIn lw_tbl (wsV RL 85 RX8 yX8_image vs_m_image) := goodIn_app (goodIn_of _ (by decide +kernel)) gg_law_m_image
set_option maxRecDepth 20000 in
theorem gg_law_x_again : GoodIn lw_tbl vs_x_again := goodIn_r _ [900, 341, 339, 340, 61, 314, 316, 318, 320, 322, 324, 326, 328] (by decide +kernel) (by decide +kernel)
set_option maxRecDepth 20000 in
theorem g86_law_x_again : GoodIn lw_tbl (wsV RL 86 RX7 yX7_again vs_x_again) := goodIn_app (goodIn_of _ (by decide +kernel)) gg_law_x_again
set_option maxRecDepth 20000 in
theorem gg_law_m_again : GoodIn lw_tbl vs_m_again := goodIn_r _ [1293, 911, 1071, 1069, 1070, 70, 958, 959, 961, 963, 965, 967, 969, 971, 973, 975, 977, 979, 981, 983, 985, 987, 989, 991, 993, 995, 997, 999, 1001, 1003, 1005, 1007, 1009, 1011, 1013, 1015, 1017, 1019, 1021, 1023, 1025, 1027, 1029, 1031, 1033, 1035, 1037, 1039, 1041, 1043, 1045, 1047, 1049, 1051, 1053] (by decide +kernel) (by decide +kernel)
set_option maxRecDepth 20000 in
theorem g89_law_m_again : GoodIn lw_tbl (wsV RL 89 RX8 yX8_again vs_m_again) := goodIn_app (goodIn_of _ (by decide +kernel)) gg_law_m_again
