set_option maxRecDepth 20000 in
theorem ggL_law_X10_init : GoodIn wsL_law wsX10_init := goodIn_r _ [8, 9, 10, 11, 12, 13, 14, 15, 16, 17, 18, 19, 20, 21, 22, 23, 24, 25, 26, 27, 28, 29, 30, 31, 32, 33, 34, 35, 36, 37, 38, 39, 40, 41, 42, 43, 44, 45, 46, 47, 48, 49, 50, 51, 52, 53, 54, 55, 56, 57, 58, 59, 60, 61, 62, 63, 64, 65, 66, 67, 68, 69, 70, 71, 72, 73, 74, 75, 76, 77, 78, 984, 985, 941, 942, 943, 944, 945, 946, 947, 948, 949, 950, 951, 986, 987, 988, 989, 990, 991, 992, 993, 994, 995, 996, 997, 998, 999, 1000, 1001, 1002, 1003, 1004, 1005, 1006, 1007, 1008, 1009, 1010, 1011, 1012, 1013, 1014, 1015, 1016, 1017, 1018, 1019, 1020, 1021, 1022, 1023, 1024, 1025, 1026] (by decide +kernel) (by decide +kernel)
set_option maxRecDepth 20000 in
theorem gL_law_X10_init : GoodIn wsL_law (wsX10_init) := ggL_law_X10_init
set_option maxRecDepth 20000 in
theorem ggL_law_X11_init : GoodIn wsL_law wsX11_init := goodIn_r _ [81, 82, 10, 11, 33, 83, 84, 85, 86, 87, 88, 89, 90, 91, 92, 93, 952, 953, 954, 955, 956, 957, 958, 959, 960, 961, 962, 963, 964, 965, 966, 967, 968, 969, 970, 971, 972, 973, 974, 975, 976, 977, 978, 979, 980, 981, 982, 983] (by decide +kernel) (by decide +kernel)
set_option maxRecDepth 20000 in
theorem gL_law_X11_init : GoodIn wsL_law (wsX11_init) := ggL_law_X11_init
set_option maxRecDepth 20000 in
theorem ggL_law_X10_letter : GoodIn wsL_law wsX10_letter := goodIn_r _ [97, 15, 98, 99, 100, 101, 14, 102, 103, 34, 941, 942, 943, 944, 945, 946, 947, 948, 949, 950, 951, 984, 985] (by decide +kernel) (by decide +kernel)
set_option maxRecDepth 20000 in
theorem gL_law_X10_letter : GoodIn wsL_law (wsV RL 13 RX10 yX10_letter wsX10_letter) := goodIn_app (goodIn_of _ (by decide +kernel)) ggL_law_X10_letter
set_option maxRecDepth 20000 in
theorem ggL_law_X11_letter : GoodIn wsL_law wsX11_letter := goodIn_r _ [107, 108, 109, 83, 110, 111, 5, 112, 952, 953, 954, 955, 956, 957, 958, 959, 960, 961, 962, 963, 964, 965, 966, 967, 968, 969, 970, 971, 972, 973, 974, 975, 976, 977, 978, 979, 980, 981, 982, 983] (by decide +kernel) (by decide +kernel)
set_option maxRecDepth 20000 in
theorem gL_law_X11_letter : GoodIn wsL_law (wsV RL 17 RX11 yX11_letter wsX11_letter) := goodIn_app (goodIn_of _ (by decide +kernel)) ggL_law_X11_letter
set_option maxRecDepth 20000 in
theorem ggL_law_X10_blank : GoodIn wsL_law wsX10_blank := goodIn_r _ [116, 15, 98, 941, 942, 943, 944, 945, 946, 947, 948, 949, 950, 951, 984, 985] (by decide +kernel) (by decide +kernel)
set_option maxRecDepth 20000 in
theorem gL_law_X10_blank : GoodIn wsL_law (wsV RL 18 RX10 yX10_blank wsX10_blank) := goodIn_app (goodIn_of _ (by decide +kernel)) ggL_law_X10_blank
set_option maxRecDepth 20000 in
theorem ggL_law_X11_blank : GoodIn wsL_law wsX11_blank := goodIn_r _ [120, 109, 952, 953, 954, 955, 956, 957, 958, 959, 960, 961, 962, 963, 964, 965, 966, 967, 968, 969, 970, 971, 972, 973, 974, 975, 976, 977, 978, 979, 980, 981, 982, 983] (by decide +kernel) (by decide +kernel)
set_option maxRecDepth 20000 in
theorem gL_law_X11_blank : GoodIn wsL_law (wsV RL 22 RX11 yX11_blank wsX11_blank) := goodIn_app (goodIn_of _ (by decide +kernel)) ggL_law_X11_blank
set_option maxRecDepth 20000 in
theorem ggL_law_X10_fault : GoodIn wsL_law wsX10_fault := goodIn_r _ [124, 15, 125, 126, 127, 14, 128, 103, 34, 129, 130, 131, 132, 133, 134, 135, 136, 137, 138, 139, 140, 141, 142, 143, 144, 145, 146, 147, 148, 149, 150, 151, 152, 153, 154, 155, 156, 157, 158, 159, 160, 161, 162, 163, 164, 165, 166, 167, 168, 169, 170, 171, 172, 173, 174, 175, 176, 177, 178, 179, 180, 181, 182, 183, 184, 185, 186, 187, 188, 189, 190, 191, 192, 193, 194, 195, 196, 197, 198, 199, 200, 201, 202, 203, 204, 205, 206, 207, 208, 209, 210, 211, 212, 213, 214, 215, 216, 217, 218, 219, 220, 941, 942, 943, 944, 945, 946, 947, 948, 949, 950, 951, 984, 985] (by decide +kernel) (by decide +kernel)
set_option maxRecDepth 20000 in
theorem gL_law_X10_fault : GoodIn wsL_law (wsV RL 23 RX10 yX10_fault wsX10_fault) := goodIn_app (goodIn_of _ (by decide +kernel)) ggL_law_X10_fault
set_option maxRecDepth 20000 in
theorem ggL_law_X11_fault : GoodIn wsL_law wsX11_fault := goodIn_r _ [224, 225, 226, 227, 5, 228, 109, 83, 229, 230, 231, 232, 233, 234, 235, 110, 111, 112, 952, 953, 954, 955, 956, 957, 958, 959, 960, 961, 962, 963, 964, 965, 966, 967, 968, 969, 970, 971, 972, 973, 974, 975, 976, 977, 978, 979, 980, 981, 982, 983] (by decide +kernel) (by decide +kernel)
set_option maxRecDepth 20000 in
theorem gL_law_X11_fault : GoodIn wsL_law (wsV RL 26 RX11 yX11_fault wsX11_fault) := goodIn_app (goodIn_of _ (by decide +kernel)) ggL_law_X11_fault
set_option maxRecDepth 20000 in
theorem ggL_law_X10_town : GoodIn wsL_law wsX10_town := goodIn_r _ [239, 15, 19, 98, 23, 240, 241, 242, 243, 244, 245, 14, 246, 103, 247, 248, 249, 250, 251, 126, 127, 128, 34, 129, 130, 131, 132, 133, 134, 135, 136, 137, 138, 139, 140, 141, 142, 143, 144, 145, 146, 147, 148, 149, 150, 151, 152, 153, 154, 155, 156, 157, 158, 159, 160, 161, 162, 163, 164, 165, 166, 167, 168, 169, 170, 171, 172, 173, 174, 175, 176, 177, 178, 179, 180, 181, 182, 183, 184, 185, 186, 187, 188, 189, 190, 191, 192, 193, 194, 195, 196, 197, 198, 199, 200, 201, 202, 203, 204, 205, 206, 207, 208, 209, 210, 211, 212, 213, 214, 215, 216, 217, 218, 219, 220, 252, 253, 254, 18, 255, 256, 257, 258, 39, 259, 260, 261, 262, 263, 264, 265, 266, 267, 268, 269, 270, 271, 272, 273, 274, 275, 276, 277, 40, 41, 278, 279, 280, 281, 282, 283, 284, 285, 286, 287, 288, 289, 44, 45, 46, 10, 11, 47, 48, 49, 290, 291, 292, 293, 294, 295, 296, 297, 298, 299, 300, 301, 302, 303, 304, 305, 22, 306, 58, 59, 60, 61, 57, 307, 308, 309, 310, 56, 311, 312, 313, 314, 941, 942, 943, 944, 945, 946, 947, 948, 949, 950, 951, 984, 985, 986, 987, 988, 989, 1018, 1019, 1020, 1012, 1013, 1014, 1021, 1022, 1023, 1015, 1016, 1017, 1009, 1010, 1011, 990, 991, 992, 993, 994, 995, 996, 997, 998, 999, 1024, 1025, 1026] (by decide +kernel) (by decide +kernel)
set_option maxRecDepth 20000 in
theorem gL_law_X10_town : GoodIn wsL_law (wsV RL 27 RX10 yX10_town wsX10_town) := goodIn_app (goodIn_of _ (by decide +kernel)) ggL_law_X10_town
set_option maxRecDepth 20000 in
theorem ggL_law_X11_town : GoodIn wsL_law wsX11_town := goodIn_r _ [318, 109, 319, 84, 83, 320, 321, 322, 323, 324, 225, 226, 227, 5, 228, 229, 230, 231, 232, 233, 234, 235, 110, 111, 112, 952, 953, 954, 955, 956, 957, 958, 959, 960, 961, 962, 963, 964, 965, 966, 967, 968, 969, 970, 971, 972, 973, 974, 975, 976, 977, 978, 979, 980, 981, 982, 983] (by decide +kernel) (by decide +kernel)
set_option maxRecDepth 20000 in
theorem gL_law_X11_town : GoodIn wsL_law (wsV RL 30 RX11 yX11_town wsX11_town) := goodIn_app (goodIn_of _ (by decide +kernel)) ggL_law_X11_town
set_option maxRecDepth 20000 in
theorem ggL_law_X10_about : GoodIn wsL_law wsX10_about := goodIn_r _ [328, 19, 329, 330, 331, 18, 332, 257, 333, 334, 335, 2, 336, 337, 338, 339, 23, 340, 341, 342, 343, 344, 345, 346, 347, 39, 42, 348, 349, 350, 41, 351, 352, 353, 354, 355, 356, 270, 357, 358, 359, 276, 360, 361, 362, 267, 363, 364, 365, 273, 366, 941, 942, 943, 944, 945, 946, 947, 948, 949, 950, 951, 986, 987, 988, 989, 1009, 1010, 1011, 1012, 1013, 1014, 1015, 1016, 1017, 1018, 1019, 1020, 1021, 1022, 1023, 990, 991, 992, 993, 994, 995, 996, 997, 998, 999] (by decide +kernel) (by decide +kernel)
set_option maxRecDepth 20000 in
theorem gL_law_X10_about : GoodIn wsL_law (wsV RL 31 RX10 yX10_about wsX10_about) := goodIn_app (goodIn_of _ (by decide +kernel)) ggL_law_X10_about
set_option maxRecDepth 20000 in
theorem ggL_law_X11_about : GoodIn wsL_law wsX11_about := goodIn_r _ [370, 371, 84, 372, 373, 374, 5, 375, 319, 110, 111, 112, 952, 953, 954, 955, 956, 957, 958, 959, 960, 961, 962, 963, 964, 965, 966, 967, 968, 969, 970, 971, 972, 973, 974, 975, 976, 977, 978, 979, 980, 981, 982, 983] (by decide +kernel) (by decide +kernel)
set_option maxRecDepth 20000 in
theorem gL_law_X11_about : GoodIn wsL_law (wsV RL 35 RX11 yX11_about wsX11_about) := goodIn_app (goodIn_of _ (by decide +kernel)) ggL_law_X11_about
set_option maxRecDepth 20000 in
theorem ggL_law_X10_as : GoodIn wsL_law wsX10_as := goodIn_r _ [379, 19, 329, 330, 331, 18, 332, 257, 344, 345, 346, 347, 39, 42, 380, 381, 2, 382, 383, 384, 385, 386, 941, 942, 943, 944, 945, 946, 947, 948, 949, 950, 951, 986, 987, 988, 989] (by decide +kernel) (by decide +kernel)
set_option maxRecDepth 20000 in
theorem gL_law_X10_as : GoodIn wsL_law (wsV RL 36 RX10 yX10_as wsX10_as) := goodIn_app (goodIn_of _ (by decide +kernel)) ggL_law_X10_as
set_option maxRecDepth 20000 in
theorem ggL_law_X11_as : GoodIn wsL_law wsX11_as := goodIn_r _ [390, 391, 84, 372, 373, 374, 5, 375, 319, 110, 111, 112, 952, 953, 954, 955, 956, 957, 958, 959, 960, 961, 962, 963, 964, 965, 966, 967, 968, 969, 970, 971, 972, 973, 974, 975, 976, 977, 978, 979, 980, 981, 982, 983] (by decide +kernel) (by decide +kernel)
set_option maxRecDepth 20000 in
theorem gL_law_X11_as : GoodIn wsL_law (wsV RL 39 RX11 yX11_as wsX11_as) := goodIn_app (goodIn_of _ (by decide +kernel)) ggL_law_X11_as
set_option maxRecDepth 20000 in
theorem ggL_law_X10_shut : GoodIn wsL_law wsX10_shut := goodIn_r _ [395, 19, 23, 340, 396, 397, 329, 330, 331, 18, 332, 257, 398, 399, 400, 22, 401, 66, 58, 402, 941, 942, 943, 944, 945, 946, 947, 948, 949, 950, 951, 990, 991, 992, 993, 994, 995, 996, 997, 998, 999, 1024, 1025, 1026, 986, 987, 988, 989] (by decide +kernel) (by decide +kernel)
set_option maxRecDepth 20000 in
theorem gL_law_X10_shut : GoodIn wsL_law (wsV RL 40 RX10 yX10_shut wsX10_shut) := goodIn_app (goodIn_of _ (by decide +kernel)) ggL_law_X10_shut
set_option maxRecDepth 20000 in
theorem ggL_law_X11_shut : GoodIn wsL_law wsX11_shut := goodIn_r _ [406, 84, 322, 372, 373, 374, 5, 375, 319, 110, 111, 112, 407, 408, 409, 410, 952, 953, 954, 955, 956, 957, 958, 959, 960, 961, 962, 963, 964, 965, 966, 967, 968, 969, 970, 971, 972, 973, 974, 975, 976, 977, 978, 979, 980, 981, 982, 983] (by decide +kernel) (by decide +kernel)
set_option maxRecDepth 20000 in
theorem gL_law_X11_shut : GoodIn wsL_law (wsV RL 44 RX11 yX11_shut wsX11_shut) := goodIn_app (goodIn_of _ (by decide +kernel)) ggL_law_X11_shut
set_option maxRecDepth 20000 in
theorem ggL_law_X10_lay : GoodIn wsL_law wsX10_lay := goodIn_r _ [414, 23, 396, 415, 397, 416, 417, 418, 2, 419, 19, 242, 420, 309, 310, 56, 311, 312, 313, 314, 941, 942, 943, 944, 945, 946, 947, 948, 949, 950, 951, 990, 991, 992, 993, 994, 995, 996, 997, 998, 999, 1024, 1025, 1026, 986, 987, 988, 989] (by decide +kernel) (by decide +kernel)
set_option maxRecDepth 20000 in
theorem gL_law_X10_lay : GoodIn wsL_law (wsV RL 45 RX10 yX10_lay wsX10_lay) := goodIn_app (goodIn_of _ (by decide +kernel)) ggL_law_X10_lay
set_option maxRecDepth 20000 in
theorem ggL_law_X11_lay : GoodIn wsL_law wsX11_lay := goodIn_r _ [424, 232, 320, 321, 110, 111, 5, 112, 425, 426, 427, 428, 319, 952, 953, 954, 955, 956, 957, 958, 959, 960, 961, 962, 963, 964, 965, 966, 967, 968, 969, 970, 971, 972, 973, 974, 975, 976, 977, 978, 979, 980, 981, 982, 983] (by decide +kernel) (by decide +kernel)
set_option maxRecDepth 20000 in
theorem gL_law_X11_lay : GoodIn wsL_law (wsV RL 48 RX11 yX11_lay wsX11_lay) := goodIn_app (goodIn_of _ (by decide +kernel)) ggL_law_X11_lay
set_option maxRecDepth 20000 in
theorem ggL_law_X10_pass : GoodIn wsL_law wsX10_pass := goodIn_r _ [432, 23, 396, 397, 416, 417, 418, 2, 419, 19, 242, 941, 942, 943, 944, 945, 946, 947, 948, 949, 950, 951, 990, 991, 992, 993, 994, 995, 996, 997, 998, 999, 1024, 1025, 1026, 986, 987, 988, 989] (by decide +kernel) (by decide +kernel)
set_option maxRecDepth 20000 in
theorem gL_law_X10_pass : GoodIn wsL_law (wsV RL 49 RX10 yX10_pass wsX10_pass) := goodIn_app (goodIn_of _ (by decide +kernel)) ggL_law_X10_pass
set_option maxRecDepth 20000 in
theorem ggL_law_X11_pass : GoodIn wsL_law wsX11_pass := goodIn_r _ [436, 437, 322, 110, 111, 5, 112, 425, 426, 427, 428, 319, 952, 953, 954, 955, 956, 957, 958, 959, 960, 961, 962, 963, 964, 965, 966, 967, 968, 969, 970, 971, 972, 973, 974, 975, 976, 977, 978, 979, 980, 981, 982, 983] (by decide +kernel) (by decide +kernel)
set_option maxRecDepth 20000 in
theorem gL_law_X11_pass : GoodIn wsL_law (wsV RL 52 RX11 yX11_pass wsX11_pass) := goodIn_app (goodIn_of _ (by decide +kernel)) ggL_law_X11_pass
set_option maxRecDepth 20000 in
theorem ggL_law_X10_open : GoodIn wsL_law wsX10_open := goodIn_r _ [441, 19, 23, 396, 397, 329, 330, 331, 18, 332, 257, 442, 443, 444, 22, 445, 66, 446, 399, 400, 401, 58, 402, 447, 448, 449, 450, 451, 452, 453, 454, 258, 455, 456, 457, 458, 57, 59, 459, 60, 460, 345, 346, 347, 39, 42, 461, 462, 463, 56, 464, 313, 314, 465, 161, 162, 163, 312, 466, 467, 468, 469, 470, 471, 472, 41, 473, 474, 475, 476, 477, 478, 479, 273, 480, 481, 482, 483, 484, 485, 486, 487, 488, 489, 490, 491, 492, 276, 493, 494, 495, 496, 309, 310, 311, 497, 498, 499, 500, 48, 501, 49, 502, 503, 504, 505, 506, 270, 507, 508, 509, 510, 941, 942, 943, 944, 945, 946, 947, 948, 949, 950, 951, 990, 991, 992, 993, 994, 995, 996, 997, 998, 999, 1024, 1025, 1026, 986, 987, 988, 989, 1009, 1010, 1011, 1012, 1013, 1014, 1015, 1016, 1017, 1018, 1019, 1020, 1021, 1022, 1023] (by decide +kernel) (by decide +kernel)
set_option maxRecDepth 20000 in
theorem gL_law_X10_open : GoodIn wsL_law (wsV RL 53 RX10 yX10_open wsX10_open) := goodIn_app (goodIn_of _ (by decide +kernel)) ggL_law_X10_open
set_option maxRecDepth 20000 in
theorem ggL_law_X11_open : GoodIn wsL_law wsX11_open := goodIn_r _ [514, 84, 515, 516, 320, 517, 321, 322, 372, 373, 374, 5, 375, 319, 110, 111, 112, 518, 519, 520, 521, 407, 408, 409, 410, 522, 523, 524, 525, 526, 527, 528, 529, 530, 531, 532, 533, 534, 535, 536, 952, 953, 954, 955, 956, 957, 958, 959, 960, 961, 962, 963, 964, 965, 966, 967, 968, 969, 970, 971, 972, 973, 974, 975, 976, 977, 978, 979, 980, 981, 982, 983] (by decide +kernel) (by decide +kernel)
set_option maxRecDepth 20000 in
theorem gL_law_X11_open : GoodIn wsL_law (wsV RL 56 RX11 yX11_open wsX11_open) := goodIn_app (goodIn_of _ (by decide +kernel)) ggL_law_X11_open
set_option maxRecDepth 20000 in
theorem ggL_law_X10_night : GoodIn wsL_law wsX10_night := goodIn_r _ [540, 23, 416, 417, 418, 2, 419, 19, 242, 541, 542, 543, 22, 544, 66, 545, 61, 58, 57, 546, 446, 399, 400, 401, 402, 330, 331, 18, 332, 257, 460, 345, 346, 347, 39, 42, 547, 548, 549, 41, 550, 49, 551, 552, 553, 554, 555, 270, 556, 557, 558, 559, 308, 309, 310, 56, 311, 312, 313, 314, 941, 942, 943, 944, 945, 946, 947, 948, 949, 950, 951, 986, 987, 988, 989, 990, 991, 992, 993, 994, 995, 996, 997, 998, 999, 1024, 1025, 1026, 1009, 1010, 1011, 1012, 1013, 1014, 1015, 1016, 1017, 1018, 1019, 1020, 1021, 1022, 1023] (by decide +kernel) (by decide +kernel)
set_option maxRecDepth 20000 in
theorem gL_law_X10_night : GoodIn wsL_law (wsV RL 57 RX10 yX10_night wsX10_night) := goodIn_app (goodIn_of _ (by decide +kernel)) ggL_law_X10_night
set_option maxRecDepth 20000 in
theorem ggL_law_X11_night : GoodIn wsL_law wsX11_night := goodIn_r _ [563, 319, 84, 322, 321, 425, 426, 427, 5, 428, 407, 408, 409, 410, 952, 953, 954, 955, 956, 957, 958, 959, 960, 961, 962, 963, 964, 965, 966, 967, 968, 969, 970, 971, 972, 973, 974, 975, 976, 977, 978, 979, 980, 981, 982, 983] (by decide +kernel) (by decide +kernel)
set_option maxRecDepth 20000 in
theorem gL_law_X11_night : GoodIn wsL_law (wsV RL 60 RX11 yX11_night wsX11_night) := goodIn_app (goodIn_of _ (by decide +kernel)) ggL_law_X11_night
set_option maxRecDepth 20000 in
theorem ggL_law_X10_next : GoodIn wsL_law wsX10_next := goodIn_r _ [567, 23, 568, 569, 2, 570, 416, 417, 418, 419, 19, 242, 571, 572, 573, 22, 574, 66, 575, 545, 447, 448, 449, 450, 58, 451, 452, 453, 18, 454, 258, 576, 577, 578, 579, 57, 546, 580, 581, 468, 162, 469, 582, 460, 345, 346, 347, 39, 42, 941, 942, 943, 944, 945, 946, 947, 948, 949, 950, 951, 986, 987, 988, 989, 990, 991, 992, 993, 994, 995, 996, 997, 998, 999, 1024, 1025, 1026, 1009, 1010, 1011, 1012, 1013, 1014, 1015, 1016, 1017, 1018, 1019, 1020, 1021, 1022, 1023] (by decide +kernel) (by decide +kernel)
set_option maxRecDepth 20000 in
theorem gL_law_X10_next : GoodIn wsL_law (wsV RL 61 RX10 yX10_next wsX10_next) := goodIn_app (goodIn_of _ (by decide +kernel)) ggL_law_X10_next
set_option maxRecDepth 20000 in
theorem ggL_law_X11_next : GoodIn wsL_law wsX11_next := goodIn_r _ [586, 587, 110, 111, 5, 112, 425, 426, 427, 428, 319, 526, 527, 528, 529, 320, 516, 322, 515, 321, 517, 518, 519, 520, 521, 407, 408, 409, 410, 84, 588, 589, 590, 591, 522, 523, 524, 525, 592, 593, 594, 595, 534, 535, 536, 952, 953, 954, 955, 956, 957, 958, 959, 960, 961, 962, 963, 964, 965, 966, 967, 968, 969, 970, 971, 972, 973, 974, 975, 976, 977, 978, 979, 980, 981, 982, 983] (by decide +kernel) (by decide +kernel)
set_option maxRecDepth 20000 in
theorem gL_law_X11_next : GoodIn wsL_law (wsV RL 64 RX11 yX11_next wsX11_next) := goodIn_app (goodIn_of _ (by decide +kernel)) ggL_law_X11_next
set_option maxRecDepth 20000 in
theorem ggL_law_X10_by : GoodIn wsL_law wsX10_by := goodIn_r _ [599, 568, 569, 2, 570, 416, 417, 418, 419, 19, 242, 600, 601, 602, 603, 25, 23, 604, 605, 606, 22, 607, 58, 59, 60, 61, 62, 63, 65, 307, 57, 608, 609, 610, 56, 611, 312, 313, 314, 496, 309, 310, 311, 612, 613, 614, 615, 616, 572, 573, 574, 66, 575, 545, 447, 448, 449, 450, 451, 452, 453, 18, 454, 258, 576, 577, 578, 579, 546, 580, 581, 468, 162, 469, 582, 460, 345, 346, 347, 39, 42, 617, 456, 457, 458, 459, 446, 399, 400, 401, 402, 330, 331, 332, 257, 461, 462, 463, 464, 465, 161, 163, 466, 467, 470, 471, 472, 41, 473, 474, 475, 476, 477, 478, 479, 273, 480, 481, 482, 483, 484, 485, 486, 487, 488, 489, 490, 491, 492, 276, 493, 494, 495, 497, 498, 499, 500, 48, 501, 49, 502, 503, 504, 505, 506, 270, 507, 508, 509, 510, 618, 619, 620, 621, 396, 397, 415, 622, 623, 624, 625, 941, 942, 943, 944, 945, 946, 947, 948, 949, 950, 951, 986, 987, 988, 989, 990, 991, 992, 993, 994, 995, 996, 997, 998, 999, 1024, 1025, 1026, 1009, 1010, 1011, 1012, 1013, 1014, 1015, 1016, 1017, 1018, 1019, 1020, 1021, 1022, 1023] (by decide +kernel) (by decide +kernel)
set_option maxRecDepth 20000 in
theorem gL_law_X10_by : GoodIn wsL_law (wsV RL 65 RX10 yX10_by wsX10_by) := goodIn_app (goodIn_of _ (by decide +kernel)) ggL_law_X10_by
set_option maxRecDepth 20000 in
theorem ggL_law_X11_by : GoodIn wsL_law wsX11_by := goodIn_r _ [629, 587, 110, 111, 5, 112, 425, 426, 427, 428, 319, 630, 631, 632, 633, 515, 516, 526, 527, 528, 529, 320, 322, 321, 517, 518, 519, 520, 521, 407, 408, 409, 410, 84, 634, 635, 636, 637, 85, 588, 589, 590, 591, 522, 523, 524, 525, 592, 593, 594, 595, 534, 535, 536, 530, 531, 532, 533, 952, 953, 954, 955, 956, 957, 958, 959, 960, 961, 962, 963, 964, 965, 966, 967, 968, 969, 970, 971, 972, 973, 974, 975, 976, 977, 978, 979, 980, 981, 982, 983] (by decide +kernel) (by decide +kernel)
set_option maxRecDepth 20000 in
theorem gL_law_X11_by : GoodIn wsL_law (wsV RL 68 RX11 yX11_by wsX11_by) := goodIn_app (goodIn_of _ (by decide +kernel)) ggL_law_X11_by
set_option maxRecDepth 20000 in
theorem ggL_law_X10_best : GoodIn wsL_law wsX10_best := goodIn_r _ [641, 29, 23, 396, 415, 416, 417, 418, 2, 419, 19, 242, 642, 643, 644, 28, 645, 646, 647, 648, 649, 448, 449, 22, 450, 58, 650, 651, 652, 653, 654, 655, 656, 657, 75, 658, 659, 660, 309, 310, 56, 311, 312, 313, 314, 661, 662, 663, 664, 78, 665, 666, 667, 668, 669, 670, 671, 672, 673, 77, 76, 674, 452, 453, 18, 454, 258, 675, 676, 677, 678, 679, 345, 346, 347, 39, 42, 680, 609, 610, 611, 496, 681, 462, 463, 464, 465, 161, 162, 163, 466, 467, 468, 469, 470, 471, 472, 41, 473, 474, 475, 476, 477, 478, 479, 273, 480, 481, 482, 483, 484, 485, 486, 487, 488, 489, 490, 491, 492, 276, 493, 494, 495, 682, 498, 499, 500, 48, 501, 49, 683, 503, 504, 505, 506, 270, 507, 508, 509, 510, 684, 685, 686, 687, 688, 689, 690, 691, 692, 693, 941, 942, 943, 944, 945, 946, 947, 948, 949, 950, 951, 990, 991, 992, 993, 994, 995, 996, 997, 998, 999, 1024, 1025, 1026, 986, 987, 988, 989, 1000, 1001, 1002, 1003, 1004, 1005, 1006, 1007, 1008, 1009, 1010, 1011, 1012, 1013, 1014, 1015, 1016, 1017, 1018, 1019, 1020, 1021, 1022, 1023] (by decide +kernel) (by decide +kernel)
set_option maxRecDepth 20000 in
theorem gL_law_X10_best : GoodIn wsL_law (wsV RL 69 RX10 yX10_best wsX10_best) := goodIn_app (goodIn_of _ (by decide +kernel)) ggL_law_X10_best
set_option maxRecDepth 20000 in
theorem ggL_law_X11_best : GoodIn wsL_law wsX11_best := goodIn_r _ [697, 698, 699, 110, 111, 5, 112, 425, 426, 427, 428, 319, 700, 701, 702, 703, 320, 321, 704, 705, 706, 87, 707, 708, 709, 710, 322, 711, 516, 515, 517, 86, 518, 519, 520, 521, 407, 408, 409, 410, 84, 712, 713, 714, 715, 88, 716, 717, 718, 719, 720, 721, 722, 723, 724, 725, 726, 727, 522, 523, 524, 525, 530, 531, 532, 533, 534, 535, 536, 728, 729, 730, 952, 953, 954, 955, 956, 957, 958, 959, 960, 961, 962, 963, 964, 965, 966, 967, 968, 969, 970, 971, 972, 973, 974, 975, 976, 977, 978, 979, 980, 981, 982, 983] (by decide +kernel) (by decide +kernel)
set_option maxRecDepth 20000 in
theorem gL_law_X11_best : GoodIn wsL_law (wsV RL 72 RX11 yX11_best wsX11_best) := goodIn_app (goodIn_of _ (by decide +kernel)) ggL_law_X11_best
set_option maxRecDepth 20000 in
theorem ggL_law_X10_shortest : GoodIn wsL_law wsX10_shortest := goodIn_r _ [734, 29, 23, 416, 417, 418, 2, 419, 19, 242, 735, 736, 737, 28, 738, 646, 647, 648, 739, 656, 649, 448, 449, 22, 450, 58, 650, 651, 652, 653, 654, 655, 657, 75, 658, 659, 660, 309, 310, 56, 311, 312, 313, 314, 661, 662, 663, 664, 78, 665, 666, 667, 668, 669, 670, 671, 672, 673, 77, 76, 674, 452, 453, 18, 454, 258, 675, 676, 677, 678, 679, 345, 346, 347, 39, 42, 680, 609, 610, 611, 496, 681, 462, 463, 464, 465, 161, 162, 163, 466, 467, 468, 469, 470, 471, 472, 41, 473, 474, 475, 476, 477, 478, 479, 273, 480, 481, 482, 483, 484, 485, 486, 487, 488, 489, 490, 491, 492, 276, 493, 494, 495, 682, 498, 499, 500, 48, 501, 49, 683, 503, 504, 505, 506, 270, 507, 508, 509, 510, 941, 942, 943, 944, 945, 946, 947, 948, 949, 950, 951, 986, 987, 988, 989, 1000, 1001, 1002, 1003, 1004, 1005, 1006, 1007, 1008, 990, 991, 992, 993, 994, 995, 996, 997, 998, 999, 1024, 1025, 1026, 1009, 1010, 1011, 1012, 1013, 1014, 1015, 1016, 1017, 1018, 1019, 1020, 1021, 1022, 1023] (by decide +kernel) (by decide +kernel)
set_option maxRecDepth 20000 in
theorem gL_law_X10_shortest : GoodIn wsL_law (wsV RL 73 RX10 yX10_shortest wsX10_shortest) := goodIn_app (goodIn_of _ (by decide +kernel)) ggL_law_X10_shortest
set_option maxRecDepth 20000 in
theorem ggL_law_X11_shortest : GoodIn wsL_law wsX11_shortest := goodIn_r _ [743, 425, 426, 427, 5, 428, 319, 744, 745, 746, 747, 320, 321, 711, 707, 708, 709, 710, 704, 322, 705, 516, 515, 517, 706, 86, 87, 518, 519, 520, 521, 407, 408, 409, 410, 84, 712, 713, 714, 715, 88, 716, 717, 718, 719, 720, 721, 722, 723, 724, 725, 726, 727, 522, 523, 524, 525, 530, 531, 532, 533, 534, 535, 536, 728, 729, 730, 952, 953, 954, 955, 956, 957, 958, 959, 960, 961, 962, 963, 964, 965, 966, 967, 968, 969, 970, 971, 972, 973, 974, 975, 976, 977, 978, 979, 980, 981, 982, 983] (by decide +kernel) (by decide +kernel)
set_option maxRecDepth 20000 in
theorem gL_law_X11_shortest : GoodIn wsL_law (wsV RL 76 RX11 yX11_shortest wsX11_shortest) := goodIn_app (goodIn_of _ (by decide +kernel)) ggL_law_X11_shortest
set_option maxRecDepth 20000 in
theorem ggL_law_X10_hang : GoodIn wsL_law wsX10_hang := goodIn_r _ [751, 752, 753, 29, 23, 688, 416, 417, 418, 2, 419, 19, 242, 642, 643, 644, 28, 645, 646, 647, 648, 649, 448, 449, 22, 450, 58, 650, 651, 652, 653, 654, 655, 656, 657, 75, 658, 659, 660, 309, 310, 56, 311, 312, 313, 314, 661, 662, 663, 664, 78, 665, 666, 667, 668, 669, 670, 671, 672, 673, 77, 76, 674, 452, 453, 18, 454, 258, 675, 676, 677, 678, 679, 345, 346, 347, 39, 42, 680, 609, 610, 611, 496, 681, 462, 463, 464, 465, 161, 162, 163, 466, 467, 468, 469, 470, 471, 472, 41, 473, 474, 475, 476, 477, 478, 479, 273, 480, 481, 482, 483, 484, 485, 486, 487, 488, 489, 490, 491, 492, 276, 493, 494, 495, 682, 498, 499, 500, 48, 501, 49, 683, 503, 504, 505, 506, 270, 507, 508, 509, 510, 941, 942, 943, 944, 945, 946, 947, 948, 949, 950, 951, 1000, 1001, 1002, 1003, 1004, 1005, 1006, 1007, 1008, 986, 987, 988, 989, 990, 991, 992, 993, 994, 995, 996, 997, 998, 999, 1024, 1025, 1026, 1009, 1010, 1011, 1012, 1013, 1014, 1015, 1016, 1017, 1018, 1019, 1020, 1021, 1022, 1023] (by decide +kernel) (by decide +kernel)
set_option maxRecDepth 20000 in
theorem gL_law_X10_hang : GoodIn wsL_law (wsV RL 77 RX10 yX10_hang wsX10_hang) := goodIn_app (goodIn_of _ (by decide +kernel)) ggL_law_X10_hang
set_option maxRecDepth 20000 in
theorem ggL_law_X11_hang : GoodIn wsL_law wsX11_hang := goodIn_r _ [757, 758, 321, 704, 425, 426, 427, 5, 428, 319, 707, 708, 709, 710, 322, 705, 711, 516, 515, 517, 706, 86, 87, 518, 519, 520, 521, 407, 408, 409, 410, 84, 712, 713, 714, 715, 88, 716, 717, 718, 719, 720, 721, 722, 723, 724, 725, 726, 727, 522, 523, 524, 525, 530, 531, 532, 533, 534, 535, 536, 728, 729, 730, 952, 953, 954, 955, 956, 957, 958, 959, 960, 961, 962, 963, 964, 965, 966, 967, 968, 969, 970, 971, 972, 973, 974, 975, 976, 977, 978, 979, 980, 981, 982, 983] (by decide +kernel) (by decide +kernel)
set_option maxRecDepth 20000 in
theorem gL_law_X11_hang : GoodIn wsL_law (wsV RL 80 RX11 yX11_hang wsX11_hang) := goodIn_app (goodIn_of _ (by decide +kernel)) ggL_law_X11_hang
set_option maxRecDepth 20000 in
theorem ggL_law_X10_twoKeys : GoodIn wsL_law wsX10_twoKeys := goodIn_r _ [762, 29, 23, 416, 417, 418, 2, 419, 19, 242, 763, 764, 765, 28, 766, 646, 647, 654, 648, 739, 656, 767, 161, 162, 163, 768, 165, 166, 649, 448, 449, 22, 450, 58, 650, 651, 652, 653, 655, 657, 75, 658, 659, 660, 309, 310, 56, 311, 312, 313, 314, 661, 662, 663, 664, 78, 665, 666, 667, 668, 669, 670, 671, 672, 673, 77, 76, 674, 452, 453, 18, 454, 258, 675, 676, 677, 678, 679, 345, 346, 347, 39, 42, 680, 609, 610, 611, 496, 681, 462, 463, 464, 465, 466, 467, 468, 469, 470, 471, 472, 41, 473, 474, 475, 476, 477, 478, 479, 273, 480, 481, 482, 483, 484, 485, 486, 487, 488, 489, 490, 491, 492, 276, 493, 494, 495, 682, 498, 499, 500, 48, 501, 49, 683, 503, 504, 505, 506, 270, 507, 508, 509, 510, 941, 942, 943, 944, 945, 946, 947, 948, 949, 950, 951, 986, 987, 988, 989, 1000, 1001, 1002, 1003, 1004, 1005, 1006, 1007, 1008, 990, 991, 992, 993, 994, 995, 996, 997, 998, 999, 1024, 1025, 1026, 1009, 1010, 1011, 1012, 1013, 1014, 1015, 1016, 1017, 1018, 1019, 1020, 1021, 1022, 1023] (by decide +kernel) (by decide +kernel)
set_option maxRecDepth 20000 in
theorem gL_law_X10_twoKeys : GoodIn wsL_law (wsV RL 81 RX10 yX10_twoKeys wsX10_twoKeys) := goodIn_app (goodIn_of _ (by decide +kernel)) ggL_law_X10_twoKeys
set_option maxRecDepth 20000 in
theorem ggL_law_X11_twoKeys : GoodIn wsL_law wsX11_twoKeys := goodIn_r _ [772, 425, 426, 427, 5, 428, 319, 518, 519, 520, 521, 407, 408, 409, 410, 84, 773, 774, 775, 776, 706, 86, 515, 712, 713, 714, 715, 88, 716, 717, 718, 719, 720, 721, 722, 723, 526, 527, 528, 529, 320, 516, 322, 321, 517, 530, 531, 532, 533, 534, 535, 536, 952, 953, 954, 955, 956, 957, 958, 959, 960, 961, 962, 963, 964, 965, 966, 967, 968, 969, 970, 971, 972, 973, 974, 975, 976, 977, 978, 979, 980, 981, 982, 983] (by decide +kernel) (by decide +kernel)
set_option maxRecDepth 20000 in
theorem gL_law_X11_twoKeys : GoodIn wsL_law (wsV RL 84 RX11 yX11_twoKeys wsX11_twoKeys) := goodIn_app (goodIn_of _ (by decide +kernel)) ggL_law_X11_twoKeys
set_option maxRecDepth 20000 in
theorem ggL_law_X10_see : GoodIn wsL_law wsX10_see := goodIn_r _ [780, 19, 23, 781, 329, 330, 331, 18, 332, 257, 782, 783, 784, 22, 785, 307, 62, 63, 65, 941, 942, 943, 944, 945, 946, 947, 948, 949, 950, 951, 990, 991, 992, 993, 994, 995, 996, 997, 998, 999, 986, 987, 988, 989] (by decide +kernel) (by decide +kernel)
set_option maxRecDepth 20000 in
theorem gL_law_X10_see : GoodIn wsL_law (wsV RL 85 RX10 yX10_see wsX10_see) := goodIn_app (goodIn_of _ (by decide +kernel)) ggL_law_X10_see
set_option maxRecDepth 20000 in
theorem ggL_law_X11_see : GoodIn wsL_law wsX11_see := goodIn_r _ [789, 790, 323, 89, 372, 373, 374, 5, 375, 319, 110, 111, 112, 952, 953, 954, 955, 956, 957, 958, 959, 960, 961, 962, 963, 964, 965, 966, 967, 968, 969, 970, 971, 972, 973, 974, 975, 976, 977, 978, 979, 980, 981, 982, 983] (by decide +kernel) (by decide +kernel)
set_option maxRecDepth 20000 in
theorem gL_law_X11_see : GoodIn wsL_law (wsV RL 89 RX11 yX11_see wsX11_see) := goodIn_app (goodIn_of _ (by decide +kernel)) ggL_law_X11_see
set_option maxRecDepth 20000 in
theorem ggL_law_X10_forget : GoodIn wsL_law wsX10_forget := goodIn_r _ [794, 23, 781, 941, 942, 943, 944, 945, 946, 947, 948, 949, 950, 951, 990, 991, 992, 993, 994, 995, 996, 997, 998, 999] (by decide +kernel) (by decide +kernel)
set_option maxRecDepth 20000 in
theorem gL_law_X10_forget : GoodIn wsL_law (wsV RL 90 RX10 yX10_forget wsX10_forget) := goodIn_app (goodIn_of _ (by decide +kernel)) ggL_law_X10_forget
set_option maxRecDepth 20000 in
theorem ggL_law_X11_forget : GoodIn wsL_law wsX11_forget := goodIn_r _ [798, 323, 952, 953, 954, 955, 956, 957, 958, 959, 960, 961, 962, 963, 964, 965, 966, 967, 968, 969, 970, 971, 972, 973, 974, 975, 976, 977, 978, 979, 980, 981, 982, 983] (by decide +kernel) (by decide +kernel)
set_option maxRecDepth 20000 in
theorem gL_law_X11_forget : GoodIn wsL_law (wsV RL 93 RX11 yX11_forget wsX11_forget) := goodIn_app (goodIn_of _ (by decide +kernel)) ggL_law_X11_forget
set_option maxRecDepth 20000 in
theorem ggL_law_X10_guess : GoodIn wsL_law wsX10_guess := goodIn_r _ [802, 803, 804, 416, 417, 418, 2, 419, 19, 242, 805, 806, 807, 808, 25, 23, 396, 604, 605, 606, 22, 607, 58, 59, 60, 61, 62, 63, 65, 307, 57, 608, 609, 610, 56, 611, 312, 313, 314, 496, 309, 310, 311, 809, 810, 811, 812, 420, 612, 613, 614, 615, 616, 572, 573, 574, 66, 575, 545, 447, 448, 449, 450, 451, 452, 453, 18, 454, 258, 576, 577, 578, 579, 546, 580, 581, 468, 162, 469, 582, 460, 345, 346, 347, 39, 42, 617, 456, 457, 458, 459, 446, 399, 400, 401, 402, 330, 331, 332, 257, 461, 462, 463, 464, 465, 161, 163, 466, 467, 470, 471, 472, 41, 473, 474, 475, 476, 477, 478, 479, 273, 480, 481, 482, 483, 484, 485, 486, 487, 488, 489, 490, 491, 492, 276, 493, 494, 495, 497, 498, 499, 500, 48, 501, 49, 502, 503, 504, 505, 506, 270, 507, 508, 509, 510, 813, 814, 815, 816, 817, 818, 819, 820, 941, 942, 943, 944, 945, 946, 947, 948, 949, 950, 951, 986, 987, 988, 989, 990, 991, 992, 993, 994, 995, 996, 997, 998, 999, 1024, 1025, 1026, 1009, 1010, 1011, 1012, 1013, 1014, 1015, 1016, 1017, 1018, 1019, 1020, 1021, 1022, 1023] (by decide +kernel) (by decide +kernel)
set_option maxRecDepth 20000 in
theorem gL_law_X10_guess : GoodIn wsL_law (wsV RL 94 RX10 yX10_guess wsX10_guess) := goodIn_app (goodIn_of _ (by decide +kernel)) ggL_law_X10_guess
set_option maxRecDepth 20000 in
theorem ggL_law_X11_guess : GoodIn wsL_law wsX11_guess := goodIn_r _ [824, 110, 111, 5, 112, 425, 426, 427, 428, 319, 825, 826, 827, 828, 516, 515, 517, 323, 85, 89, 518, 519, 520, 521, 407, 408, 409, 410, 84, 634, 635, 636, 637, 588, 589, 590, 591, 522, 523, 524, 525, 592, 593, 594, 595, 534, 535, 536, 530, 531, 532, 533, 952, 953, 954, 955, 956, 957, 958, 959, 960, 961, 962, 963, 964, 965, 966, 967, 968, 969, 970, 971, 972, 973, 974, 975, 976, 977, 978, 979, 980, 981, 982, 983] (by decide +kernel) (by decide +kernel)
set_option maxRecDepth 20000 in
theorem gL_law_X11_guess : GoodIn wsL_law (wsV RL 97 RX11 yX11_guess wsX11_guess) := goodIn_app (goodIn_of _ (by decide +kernel)) ggL_law_X11_guess
set_option maxRecDepth 20000 in
theorem ggL_law_X10_nights : GoodIn wsL_law wsX10_nights := goodIn_r _ [832, 25, 396, 23, 415, 416, 417, 418, 2, 419, 19, 242, 303, 304, 305, 22, 306, 58, 59, 60, 61, 57, 307, 308, 309, 310, 56, 311, 312, 313, 314, 833, 834, 835, 836, 340, 420, 837, 838, 839, 840, 841, 842, 843, 844, 845, 846, 612, 613, 614, 615, 616, 572, 573, 574, 66, 575, 545, 447, 448, 449, 450, 451, 452, 453, 18, 454, 258, 576, 577, 578, 579, 546, 580, 581, 468, 162, 469, 582, 460, 345, 346, 347, 39, 42, 617, 456, 457, 458, 459, 446, 399, 400, 401, 402, 330, 331, 332, 257, 461, 462, 463, 464, 465, 161, 163, 466, 467, 470, 471, 472, 41, 473, 474, 475, 476, 477, 478, 479, 273, 480, 481, 482, 483, 484, 485, 486, 487, 488, 489, 490, 491, 492, 276, 493, 494, 495, 496, 497, 498, 499, 500, 48, 501, 49, 502, 503, 504, 505, 506, 270, 507, 508, 509, 510, 622, 623, 624, 625, 941, 942, 943, 944, 945, 946, 947, 948, 949, 950, 951, 990, 991, 992, 993, 994, 995, 996, 997, 998, 999, 1024, 1025, 1026, 986, 987, 988, 989, 1009, 1010, 1011, 1012, 1013, 1014, 1015, 1016, 1017, 1018, 1019, 1020, 1021, 1022, 1023] (by decide +kernel) (by decide +kernel)
set_option maxRecDepth 20000 in
theorem gL_law_X10_nights : GoodIn wsL_law (wsV RL 98 RX10 yX10_nights wsX10_nights) := goodIn_app (goodIn_of _ (by decide +kernel)) ggL_law_X10_nights
set_option maxRecDepth 20000 in
theorem ggL_law_X11_nights : GoodIn wsL_law wsX11_nights := goodIn_r _ [850, 851, 587, 84, 90, 852, 320, 516, 515, 517, 319, 110, 111, 5, 112, 425, 426, 427, 428, 728, 729, 730, 853, 854, 855, 856, 857, 858, 859, 860, 518, 519, 520, 521, 407, 408, 409, 410, 634, 635, 636, 637, 85, 588, 589, 590, 591, 522, 523, 524, 525, 592, 593, 594, 595, 534, 535, 536, 530, 531, 532, 533, 952, 953, 954, 955, 956, 957, 958, 959, 960, 961, 962, 963, 964, 965, 966, 967, 968, 969, 970, 971, 972, 973, 974, 975, 976, 977, 978, 979, 980, 981, 982, 983] (by decide +kernel) (by decide +kernel)
set_option maxRecDepth 20000 in
theorem gL_law_X11_nights : GoodIn wsL_law (wsV RL 102 RX11 yX11_nights wsX11_nights) := goodIn_app (goodIn_of _ (by decide +kernel)) ggL_law_X11_nights
set_option maxRecDepth 20000 in
theorem ggL_law_X10_image : GoodIn wsL_law wsX10_image := goodIn_r _ [864, 24, 23, 240, 396, 397, 416, 417, 418, 2, 419, 19, 242, 604, 605, 606, 22, 607, 58, 59, 60, 61, 62, 63, 65, 307, 57, 608, 609, 610, 56, 611, 312, 313, 314, 496, 309, 310, 311, 941, 942, 943, 944, 945, 946, 947, 948, 949, 950, 951, 990, 991, 992, 993, 994, 995, 996, 997, 998, 999, 1024, 1025, 1026, 986, 987, 988, 989] (by decide +kernel) (by decide +kernel)
set_option maxRecDepth 20000 in
theorem gL_law_X10_image : GoodIn wsL_law (wsV RL 103 RX10 yX10_image wsX10_image) := goodIn_app (goodIn_of _ (by decide +kernel)) ggL_law_X10_image
set_option maxRecDepth 20000 in
theorem ggL_law_X11_image : GoodIn wsL_law wsX11_image := goodIn_r _ [868, 84, 91, 89, 92, 320, 869, 321, 870, 322, 871, 323, 872, 324, 93, 425, 426, 427, 5, 428, 319, 728, 729, 730, 952, 953, 954, 955, 956, 957, 958, 959, 960, 961, 962, 963, 964, 965, 966, 967, 968, 969, 970, 971, 972, 973, 974, 975, 976, 977, 978, 979, 980, 981, 982, 983] (by decide +kernel) (by decide +kernel)
set_option maxRecDepth 20000 in
theorem gL_law_X11_image : GoodIn wsL_law (wsV RL 106 RX11 yX11_image wsX11_image) := goodIn_app (goodIn_of _ (by decide +kernel)) ggL_law_X11_image
set_option maxRecDepth 20000 in
theorem ggL_law_X10_restore : GoodIn wsL_law wsX10_restore := goodIn_r _ [876, 240, 23, 24, 396, 397, 604, 605, 606, 22, 607, 58, 59, 60, 61, 62, 63, 65, 307, 57, 608, 609, 610, 56, 611, 312, 313, 314, 496, 309, 310, 311, 941, 942, 943, 944, 945, 946, 947, 948, 949, 950, 951, 990, 991, 992, 993, 994, 995, 996, 997, 998, 999, 1024, 1025, 1026] (by decide +kernel) (by decide +kernel)
set_option maxRecDepth 20000 in
theorem gL_law_X10_restore : GoodIn wsL_law (wsV RL 107 RX10 yX10_restore wsX10_restore) := goodIn_app (goodIn_of _ (by decide +kernel)) ggL_law_X10_restore
set_option maxRecDepth 20000 in
theorem ggL_law_X11_restore : GoodIn wsL_law wsX11_restore := goodIn_r _ [880, 93, 324, 91, 84, 92, 89, 869, 320, 870, 321, 871, 322, 872, 323, 728, 729, 5, 730, 952, 953, 954, 955, 956, 957, 958, 959, 960, 961, 962, 963, 964, 965, 966, 967, 968, 969, 970, 971, 972, 973, 974, 975, 976, 977, 978, 979, 980, 981, 982, 983] (by decide +kernel) (by decide +kernel)
set_option maxRecDepth 20000 in
theorem gL_law_X11_restore : GoodIn wsL_law (wsV RL 110 RX11 yX11_restore wsX11_restore) := goodIn_app (goodIn_of _ (by decide +kernel)) ggL_law_X11_restore
set_option maxRecDepth 20000 in
theorem ggL_law_X10_count : GoodIn wsL_law wsX10_count := goodIn_r _ [884, 19, 242, 23, 396, 415, 397, 885, 781, 15, 98, 241, 752, 886, 887, 888, 22, 889, 447, 448, 449, 450, 58, 890, 891, 892, 893, 894, 895, 896, 622, 623, 624, 625, 60, 897, 898, 899, 900, 61, 941, 942, 943, 944, 945, 946, 947, 948, 949, 950, 951, 986, 987, 988, 989, 990, 991, 992, 993, 994, 995, 996, 997, 998, 999, 1024, 1025, 1026, 984, 985] (by decide +kernel) (by decide +kernel)
set_option maxRecDepth 20000 in
theorem gL_law_X10_count : GoodIn wsL_law (wsV RL 111 RX10 yX10_count wsX10_count) := goodIn_app (goodIn_of _ (by decide +kernel)) ggL_law_X10_count
set_option maxRecDepth 20000 in
theorem ggL_law_X11_count : GoodIn wsL_law wsX11_count := goodIn_r _ [904, 905, 906, 907, 5, 908, 319, 320, 322, 321, 323, 109, 324, 758, 909, 910, 911, 912, 84, 407, 408, 409, 410, 952, 953, 954, 955, 956, 957, 958, 959, 960, 961, 962, 963, 964, 965, 966, 967, 968, 969, 970, 971, 972, 973, 974, 975, 976, 977, 978, 979, 980, 981, 982, 983] (by decide +kernel) (by decide +kernel)
set_option maxRecDepth 20000 in
theorem gL_law_X11_count : GoodIn wsL_law (wsV RL 114 RX11 yX11_count wsX11_count) := goodIn_app (goodIn_of _ (by decide +kernel)) ggL_law_X11_count
set_option maxRecDepth 20000 in
theorem ggL_law_X10_digest : GoodIn wsL_law wsX10_digest := goodIn_r _ [916, 917, 19, 242, 918, 15, 98, 333, 334, 335, 2, 336, 337, 338, 339, 23, 340, 341, 342, 343, 344, 345, 346, 18, 347, 39, 42, 348, 349, 350, 41, 351, 352, 353, 354, 355, 356, 270, 357, 358, 359, 276, 360, 361, 362, 267, 363, 364, 365, 273, 366, 416, 417, 418, 419, 919, 920, 921, 922, 29, 396, 415, 803, 804, 571, 572, 573, 22, 574, 66, 575, 545, 447, 448, 449, 450, 58, 451, 452, 453, 454, 258, 576, 577, 578, 579, 57, 546, 580, 581, 468, 162, 469, 582, 460, 600, 601, 602, 603, 25, 604, 605, 606, 607, 59, 60, 61, 62, 63, 65, 307, 608, 609, 610, 56, 611, 312, 313, 314, 496, 309, 310, 311, 612, 613, 614, 615, 616, 617, 456, 457, 458, 459, 446, 399, 400, 401, 402, 330, 331, 332, 257, 461, 462, 463, 464, 465, 161, 163, 466, 467, 470, 471, 472, 473, 474, 475, 476, 477, 478, 479, 480, 481, 482, 483, 484, 485, 486, 487, 488, 489, 490, 491, 492, 493, 494, 495, 497, 498, 499, 500, 48, 501, 49, 502, 503, 504, 505, 506, 507, 508, 509, 510, 618, 619, 620, 621, 397, 622, 623, 624, 625, 642, 643, 644, 28, 645, 646, 647, 648, 649, 650, 651, 652, 653, 654, 655, 656, 657, 75, 658, 659, 660, 661, 662, 663, 664, 78, 665, 666, 667, 668, 669, 670, 671, 672, 673, 77, 76, 674, 675, 676, 677, 678, 679, 680, 681, 682, 683, 684, 685, 686, 687, 688, 689, 690, 691, 692, 693, 735, 736, 737, 738, 739, 805, 806, 807, 808, 809, 810, 811, 812, 420, 813, 814, 815, 816, 817, 818, 819, 820, 923, 283, 284, 14, 285, 103, 34, 924, 882, 883, 884, 885, 781, 241, 752, 886, 887, 888, 889, 890, 891, 892, 893, 894, 895, 896, 897, 898, 899, 900, 941, 942, 943, 944, 945, 946, 947, 948, 949, 950, 951, 986, 987, 988, 989, 984, 985, 1009, 1010, 1011, 1012, 1013, 1014, 1015, 1016, 1017, 1018, 1019, 1020, 1021, 1022, 1023, 990, 991, 992, 993, 994, 995, 996, 997, 998, 999, 1024, 1025, 1026, 1000, 1001, 1002, 1003, 1004, 1005, 1006, 1007, 1008] (by decide +kernel) (by decide +kernel)
set_option maxRecDepth 20000 in
theorem gL_law_X10_digest : GoodIn wsL_law (wsV RL 115 RX10 yX10_digest wsX10_digest) := goodIn_app (goodIn_of _ (by decide +kernel)) ggL_law_X10_digest
set_option maxRecDepth 20000 in
theorem ggL_law_X11_digest : GoodIn wsL_law wsX11_digest := goodIn_r _ [928, 929, 930, 319, 84, 109, 83, 931, 932, 933, 5, 934, 935, 425, 426, 427, 428, 936, 937, 938, 939, 320, 321, 704, 705, 706, 87, 940, 711, 526, 527, 528, 529, 516, 322, 515, 517, 518, 519, 520, 521, 407, 408, 409, 410, 588, 589, 590, 591, 522, 523, 524, 525, 592, 593, 594, 595, 534, 535, 536, 630, 631, 632, 633, 634, 635, 636, 637, 85, 530, 531, 532, 533, 707, 708, 709, 710, 86, 712, 713, 714, 715, 88, 716, 717, 718, 719, 720, 721, 722, 723, 724, 725, 726, 727, 728, 729, 730, 825, 826, 827, 828, 323, 89, 905, 906, 907, 908, 324, 758, 909, 910, 911, 912, 952, 953, 954, 955, 956, 957, 958, 959, 960, 961, 962, 963, 964, 965, 966, 967, 968, 969, 970, 971, 972, 973, 974, 975, 976, 977, 978, 979, 980, 981, 982, 983] (by decide +kernel) (by decide +kernel)
set_option maxRecDepth 20000 in
theorem gL_law_X11_digest : GoodIn wsL_law (wsV RL 119 RX11 yX11_digest wsX11_digest) := goodIn_app (goodIn_of _ (by decide +kernel)) ggL_law_X11_digest
theorem dL_law_0 : decode cL_law 0 = .ok (.new 7, 3) := by decide +kernel
theorem dL_law_3 : decode cL_law 3 = .ok (.dup, 1) := by decide +kernel
theorem dL_law_4 : decode cL_law 4 = .ok (.invokespecial 9, 3) := by decide +kernel
theorem dL_law_7 : decode cL_law 7 = .ok (.astore_n 1, 1) := by decide +kernel
theorem dL_law_8 : decode cL_law 8 = .ok (.new 10, 3) := by decide +kernel
theorem dL_law_11 : decode cL_law 11 = .ok (.dup, 1) := by decide +kernel
theorem dL_law_12 : decode cL_law 12 = .ok (.invokespecial 12, 3) := by decide +kernel
theorem dL_law_15 : decode cL_law 15 = .ok (.astore_n 2, 1) := by decide +kernel
theorem dL_law_16 : decode cL_law 16 = .ok (.iconst 0, 1) := by decide +kernel
theorem dL_law_17 : decode cL_law 17 = .ok (.istore_n 3, 1) := by decide +kernel
theorem dL_law_18 : decode cL_law 18 = .ok (.iload_n 3, 1) := by decide +kernel
theorem dL_law_19 : decode cL_law 19 = .ok (.aload_n 0, 1) := by decide +kernel
theorem dL_law_20 : decode cL_law 20 = .ok (.arraylength, 1) := by decide +kernel
theorem dL_law_21 : decode cL_law 21 = .ok (.iconst 4, 1) := by decide +kernel
theorem dL_law_22 : decode cL_law 22 = .ok (.isub, 1) := by decide +kernel
theorem dL_law_23 : decode cL_law 23 = .ok (.if_icmp .gt 709, 3) := by decide +kernel
theorem dL_law_26 : decode cL_law 26 = .ok (.aload_n 0, 1) := by decide +kernel
theorem dL_law_27 : decode cL_law 27 = .ok (.iload_n 3, 1) := by decide +kernel
theorem dL_law_28 : decode cL_law 28 = .ok (.iaload, 1) := by decide +kernel
theorem dL_law_29 : decode cL_law 29 = .ok (.bipush 31, 2) := by decide +kernel
theorem dL_law_31 : decode cL_law 31 = .ok (.iand, 1) := by decide +kernel
theorem dL_law_32 : decode cL_law 32 = .ok (.tableswitch 694 0 24 #[116, 139, 152, 165, 178, 211, 244, 293, 316, 339, 362, 375, 398, 431, 454, 467, 480, 493, 552, 565, 588, 631, 644, 657, 680], 116) := by decide +kernel
theorem dL_law_148 : decode cL_law 148 = .ok (.aload_n 1, 1) := by decide +kernel
theorem dL_law_149 : decode cL_law 149 = .ok (.aload_n 0, 1) := by decide +kernel
theorem dL_law_150 : decode cL_law 150 = .ok (.iload_n 3, 1) := by decide +kernel
theorem dL_law_151 : decode cL_law 151 = .ok (.iconst 1, 1) := by decide +kernel
theorem dL_law_152 : decode cL_law 152 = .ok (.iadd, 1) := by decide +kernel
theorem dL_law_153 : decode cL_law 153 = .ok (.iaload, 1) := by decide +kernel
theorem dL_law_154 : decode cL_law 154 = .ok (.invokevirtual 13, 3) := by decide +kernel
theorem dL_law_157 : decode cL_law 157 = .ok (.aload_n 2, 1) := by decide +kernel
theorem dL_law_158 : decode cL_law 158 = .ok (.aload_n 0, 1) := by decide +kernel
theorem dL_law_159 : decode cL_law 159 = .ok (.iload_n 3, 1) := by decide +kernel
theorem dL_law_160 : decode cL_law 160 = .ok (.iconst 1, 1) := by decide +kernel
theorem dL_law_161 : decode cL_law 161 = .ok (.iadd, 1) := by decide +kernel
theorem dL_law_162 : decode cL_law 162 = .ok (.iaload, 1) := by decide +kernel
theorem dL_law_163 : decode cL_law 163 = .ok (.invokevirtual 17, 3) := by decide +kernel
theorem dL_law_166 : decode cL_law 166 = .ok (.if_icmp .eq 560, 3) := by decide +kernel
theorem dL_law_169 : decode cL_law 169 = .ok (.iconst 0, 1) := by decide +kernel
theorem dL_law_170 : decode cL_law 170 = .ok (.ireturn, 1) := by decide +kernel
theorem dL_law_171 : decode cL_law 171 = .ok (.aload_n 1, 1) := by decide +kernel
theorem dL_law_172 : decode cL_law 172 = .ok (.invokevirtual 18, 3) := by decide +kernel
theorem dL_law_175 : decode cL_law 175 = .ok (.aload_n 2, 1) := by decide +kernel
theorem dL_law_176 : decode cL_law 176 = .ok (.invokevirtual 22, 3) := by decide +kernel
theorem dL_law_179 : decode cL_law 179 = .ok (.if_icmp .eq 547, 3) := by decide +kernel
theorem dL_law_182 : decode cL_law 182 = .ok (.iconst 0, 1) := by decide +kernel
theorem dL_law_183 : decode cL_law 183 = .ok (.ireturn, 1) := by decide +kernel
theorem dL_law_184 : decode cL_law 184 = .ok (.aload_n 1, 1) := by decide +kernel
theorem dL_law_185 : decode cL_law 185 = .ok (.invokevirtual 23, 3) := by decide +kernel
theorem dL_law_188 : decode cL_law 188 = .ok (.aload_n 2, 1) := by decide +kernel
theorem dL_law_189 : decode cL_law 189 = .ok (.invokevirtual 26, 3) := by decide +kernel
theorem dL_law_192 : decode cL_law 192 = .ok (.if_icmp .eq 534, 3) := by decide +kernel
theorem dL_law_195 : decode cL_law 195 = .ok (.iconst 0, 1) := by decide +kernel
theorem dL_law_196 : decode cL_law 196 = .ok (.ireturn, 1) := by decide +kernel
theorem dL_law_197 : decode cL_law 197 = .ok (.aload_n 1, 1) := by decide +kernel
theorem dL_law_198 : decode cL_law 198 = .ok (.invokevirtual 27, 3) := by decide +kernel
theorem dL_law_201 : decode cL_law 201 = .ok (.aload_n 2, 1) := by decide +kernel
theorem dL_law_202 : decode cL_law 202 = .ok (.invokevirtual 30, 3) := by decide +kernel
theorem dL_law_205 : decode cL_law 205 = .ok (.if_icmp .eq 521, 3) := by decide +kernel
theorem dL_law_208 : decode cL_law 208 = .ok (.iconst 0, 1) := by decide +kernel
theorem dL_law_209 : decode cL_law 209 = .ok (.ireturn, 1) := by decide +kernel
theorem dL_law_210 : decode cL_law 210 = .ok (.aload_n 1, 1) := by decide +kernel
theorem dL_law_211 : decode cL_law 211 = .ok (.aload_n 0, 1) := by decide +kernel
theorem dL_law_212 : decode cL_law 212 = .ok (.iload_n 3, 1) := by decide +kernel
theorem dL_law_213 : decode cL_law 213 = .ok (.iconst 1, 1) := by decide +kernel
theorem dL_law_214 : decode cL_law 214 = .ok (.iadd, 1) := by decide +kernel
theorem dL_law_215 : decode cL_law 215 = .ok (.iaload, 1) := by decide +kernel
theorem dL_law_216 : decode cL_law 216 = .ok (.aload_n 0, 1) := by decide +kernel
theorem dL_law_217 : decode cL_law 217 = .ok (.iload_n 3, 1) := by decide +kernel
theorem dL_law_218 : decode cL_law 218 = .ok (.iconst 2, 1) := by decide +kernel
theorem dL_law_219 : decode cL_law 219 = .ok (.iadd, 1) := by decide +kernel
theorem dL_law_220 : decode cL_law 220 = .ok (.iaload, 1) := by decide +kernel
theorem dL_law_221 : decode cL_law 221 = .ok (.invokevirtual 31, 3) := by decide +kernel
theorem dL_law_224 : decode cL_law 224 = .ok (.aload_n 2, 1) := by decide +kernel
theorem dL_law_225 : decode cL_law 225 = .ok (.aload_n 0, 1) := by decide +kernel
theorem dL_law_226 : decode cL_law 226 = .ok (.iload_n 3, 1) := by decide +kernel
theorem dL_law_227 : decode cL_law 227 = .ok (.iconst 1, 1) := by decide +kernel
theorem dL_law_228 : decode cL_law 228 = .ok (.iadd, 1) := by decide +kernel
theorem dL_law_229 : decode cL_law 229 = .ok (.iaload, 1) := by decide +kernel
theorem dL_law_230 : decode cL_law 230 = .ok (.aload_n 0, 1) := by decide +kernel
theorem dL_law_231 : decode cL_law 231 = .ok (.iload_n 3, 1) := by decide +kernel
theorem dL_law_232 : decode cL_law 232 = .ok (.iconst 2, 1) := by decide +kernel
theorem dL_law_233 : decode cL_law 233 = .ok (.iadd, 1) := by decide +kernel
theorem dL_law_234 : decode cL_law 234 = .ok (.iaload, 1) := by decide +kernel
theorem dL_law_235 : decode cL_law 235 = .ok (.invokevirtual 35, 3) := by decide +kernel
theorem dL_law_238 : decode cL_law 238 = .ok (.if_icmp .eq 488, 3) := by decide +kernel
theorem dL_law_241 : decode cL_law 241 = .ok (.iconst 0, 1) := by decide +kernel
theorem dL_law_242 : decode cL_law 242 = .ok (.ireturn, 1) := by decide +kernel
theorem dL_law_243 : decode cL_law 243 = .ok (.aload_n 1, 1) := by decide +kernel
theorem dL_law_244 : decode cL_law 244 = .ok (.aload_n 0, 1) := by decide +kernel
theorem dL_law_245 : decode cL_law 245 = .ok (.iload_n 3, 1) := by decide +kernel
theorem dL_law_246 : decode cL_law 246 = .ok (.iconst 1, 1) := by decide +kernel
theorem dL_law_247 : decode cL_law 247 = .ok (.iadd, 1) := by decide +kernel
theorem dL_law_248 : decode cL_law 248 = .ok (.iaload, 1) := by decide +kernel
theorem dL_law_249 : decode cL_law 249 = .ok (.aload_n 0, 1) := by decide +kernel
theorem dL_law_250 : decode cL_law 250 = .ok (.iload_n 3, 1) := by decide +kernel
theorem dL_law_251 : decode cL_law 251 = .ok (.iconst 2, 1) := by decide +kernel
theorem dL_law_252 : decode cL_law 252 = .ok (.iadd, 1) := by decide +kernel
theorem dL_law_253 : decode cL_law 253 = .ok (.iaload, 1) := by decide +kernel
theorem dL_law_254 : decode cL_law 254 = .ok (.invokevirtual 36, 3) := by decide +kernel
theorem dL_law_257 : decode cL_law 257 = .ok (.aload_n 2, 1) := by decide +kernel
theorem dL_law_258 : decode cL_law 258 = .ok (.aload_n 0, 1) := by decide +kernel
theorem dL_law_259 : decode cL_law 259 = .ok (.iload_n 3, 1) := by decide +kernel
theorem dL_law_260 : decode cL_law 260 = .ok (.iconst 1, 1) := by decide +kernel
theorem dL_law_261 : decode cL_law 261 = .ok (.iadd, 1) := by decide +kernel
theorem dL_law_262 : decode cL_law 262 = .ok (.iaload, 1) := by decide +kernel
theorem dL_law_263 : decode cL_law 263 = .ok (.aload_n 0, 1) := by decide +kernel
theorem dL_law_264 : decode cL_law 264 = .ok (.iload_n 3, 1) := by decide +kernel
theorem dL_law_265 : decode cL_law 265 = .ok (.iconst 2, 1) := by decide +kernel
theorem dL_law_266 : decode cL_law 266 = .ok (.iadd, 1) := by decide +kernel
theorem dL_law_267 : decode cL_law 267 = .ok (.iaload, 1) := by decide +kernel
theorem dL_law_268 : decode cL_law 268 = .ok (.invokevirtual 39, 3) := by decide +kernel
theorem dL_law_271 : decode cL_law 271 = .ok (.if_icmp .eq 455, 3) := by decide +kernel
theorem dL_law_274 : decode cL_law 274 = .ok (.iconst 0, 1) := by decide +kernel
theorem dL_law_275 : decode cL_law 275 = .ok (.ireturn, 1) := by decide +kernel
theorem dL_law_276 : decode cL_law 276 = .ok (.aload_n 1, 1) := by decide +kernel
theorem dL_law_277 : decode cL_law 277 = .ok (.aload_n 0, 1) := by decide +kernel
theorem dL_law_278 : decode cL_law 278 = .ok (.iload_n 3, 1) := by decide +kernel
theorem dL_law_279 : decode cL_law 279 = .ok (.iconst 1, 1) := by decide +kernel
theorem dL_law_280 : decode cL_law 280 = .ok (.iadd, 1) := by decide +kernel
theorem dL_law_281 : decode cL_law 281 = .ok (.iaload, 1) := by decide +kernel
theorem dL_law_282 : decode cL_law 282 = .ok (.aload_n 0, 1) := by decide +kernel
theorem dL_law_283 : decode cL_law 283 = .ok (.iload_n 3, 1) := by decide +kernel
theorem dL_law_284 : decode cL_law 284 = .ok (.iconst 2, 1) := by decide +kernel
theorem dL_law_285 : decode cL_law 285 = .ok (.iadd, 1) := by decide +kernel
theorem dL_law_286 : decode cL_law 286 = .ok (.iaload, 1) := by decide +kernel
theorem dL_law_287 : decode cL_law 287 = .ok (.ifCond .eq 7, 3) := by decide +kernel
theorem dL_law_290 : decode cL_law 290 = .ok (.iconst 1, 1) := by decide +kernel
theorem dL_law_291 : decode cL_law 291 = .ok (.goto 4, 3) := by decide +kernel
theorem dL_law_294 : decode cL_law 294 = .ok (.iconst 0, 1) := by decide +kernel
theorem dL_law_295 : decode cL_law 295 = .ok (.invokevirtual 40, 3) := by decide +kernel
theorem dL_law_298 : decode cL_law 298 = .ok (.aload_n 2, 1) := by decide +kernel
theorem dL_law_299 : decode cL_law 299 = .ok (.aload_n 0, 1) := by decide +kernel
theorem dL_law_300 : decode cL_law 300 = .ok (.iload_n 3, 1) := by decide +kernel
theorem dL_law_301 : decode cL_law 301 = .ok (.iconst 1, 1) := by decide +kernel
theorem dL_law_302 : decode cL_law 302 = .ok (.iadd, 1) := by decide +kernel
theorem dL_law_303 : decode cL_law 303 = .ok (.iaload, 1) := by decide +kernel
theorem dL_law_304 : decode cL_law 304 = .ok (.aload_n 0, 1) := by decide +kernel
theorem dL_law_305 : decode cL_law 305 = .ok (.iload_n 3, 1) := by decide +kernel
theorem dL_law_306 : decode cL_law 306 = .ok (.iconst 2, 1) := by decide +kernel
theorem dL_law_307 : decode cL_law 307 = .ok (.iadd, 1) := by decide +kernel
theorem dL_law_308 : decode cL_law 308 = .ok (.iaload, 1) := by decide +kernel
theorem dL_law_309 : decode cL_law 309 = .ok (.ifCond .eq 7, 3) := by decide +kernel
theorem dL_law_312 : decode cL_law 312 = .ok (.iconst 1, 1) := by decide +kernel
theorem dL_law_313 : decode cL_law 313 = .ok (.goto 4, 3) := by decide +kernel
theorem dL_law_316 : decode cL_law 316 = .ok (.iconst 0, 1) := by decide +kernel
theorem dL_law_317 : decode cL_law 317 = .ok (.invokevirtual 44, 3) := by decide +kernel
theorem dL_law_320 : decode cL_law 320 = .ok (.if_icmp .eq 406, 3) := by decide +kernel
theorem dL_law_323 : decode cL_law 323 = .ok (.iconst 0, 1) := by decide +kernel
theorem dL_law_324 : decode cL_law 324 = .ok (.ireturn, 1) := by decide +kernel
theorem dL_law_325 : decode cL_law 325 = .ok (.aload_n 1, 1) := by decide +kernel
theorem dL_law_326 : decode cL_law 326 = .ok (.aload_n 0, 1) := by decide +kernel
theorem dL_law_327 : decode cL_law 327 = .ok (.iload_n 3, 1) := by decide +kernel
theorem dL_law_328 : decode cL_law 328 = .ok (.iconst 1, 1) := by decide +kernel
theorem dL_law_329 : decode cL_law 329 = .ok (.iadd, 1) := by decide +kernel
theorem dL_law_330 : decode cL_law 330 = .ok (.iaload, 1) := by decide +kernel
theorem dL_law_331 : decode cL_law 331 = .ok (.invokevirtual 45, 3) := by decide +kernel
theorem dL_law_334 : decode cL_law 334 = .ok (.aload_n 2, 1) := by decide +kernel
theorem dL_law_335 : decode cL_law 335 = .ok (.aload_n 0, 1) := by decide +kernel
theorem dL_law_336 : decode cL_law 336 = .ok (.iload_n 3, 1) := by decide +kernel
theorem dL_law_337 : decode cL_law 337 = .ok (.iconst 1, 1) := by decide +kernel
theorem dL_law_338 : decode cL_law 338 = .ok (.iadd, 1) := by decide +kernel
theorem dL_law_339 : decode cL_law 339 = .ok (.iaload, 1) := by decide +kernel
theorem dL_law_340 : decode cL_law 340 = .ok (.invokevirtual 48, 3) := by decide +kernel
theorem dL_law_343 : decode cL_law 343 = .ok (.if_icmp .eq 383, 3) := by decide +kernel
theorem dL_law_346 : decode cL_law 346 = .ok (.iconst 0, 1) := by decide +kernel
theorem dL_law_347 : decode cL_law 347 = .ok (.ireturn, 1) := by decide +kernel
theorem dL_law_348 : decode cL_law 348 = .ok (.aload_n 1, 1) := by decide +kernel
theorem dL_law_349 : decode cL_law 349 = .ok (.aload_n 0, 1) := by decide +kernel
theorem dL_law_350 : decode cL_law 350 = .ok (.iload_n 3, 1) := by decide +kernel
theorem dL_law_351 : decode cL_law 351 = .ok (.iconst 1, 1) := by decide +kernel
theorem dL_law_352 : decode cL_law 352 = .ok (.iadd, 1) := by decide +kernel
theorem dL_law_353 : decode cL_law 353 = .ok (.iaload, 1) := by decide +kernel
theorem dL_law_354 : decode cL_law 354 = .ok (.invokevirtual 49, 3) := by decide +kernel
theorem dL_law_357 : decode cL_law 357 = .ok (.aload_n 2, 1) := by decide +kernel
theorem dL_law_358 : decode cL_law 358 = .ok (.aload_n 0, 1) := by decide +kernel
theorem dL_law_359 : decode cL_law 359 = .ok (.iload_n 3, 1) := by decide +kernel
theorem dL_law_360 : decode cL_law 360 = .ok (.iconst 1, 1) := by decide +kernel
theorem dL_law_361 : decode cL_law 361 = .ok (.iadd, 1) := by decide +kernel
theorem dL_law_362 : decode cL_law 362 = .ok (.iaload, 1) := by decide +kernel
theorem dL_law_363 : decode cL_law 363 = .ok (.invokevirtual 52, 3) := by decide +kernel
theorem dL_law_366 : decode cL_law 366 = .ok (.if_icmp .eq 360, 3) := by decide +kernel
theorem dL_law_369 : decode cL_law 369 = .ok (.iconst 0, 1) := by decide +kernel
theorem dL_law_370 : decode cL_law 370 = .ok (.ireturn, 1) := by decide +kernel
theorem dL_law_371 : decode cL_law 371 = .ok (.aload_n 1, 1) := by decide +kernel
theorem dL_law_372 : decode cL_law 372 = .ok (.aload_n 0, 1) := by decide +kernel
theorem dL_law_373 : decode cL_law 373 = .ok (.iload_n 3, 1) := by decide +kernel
theorem dL_law_374 : decode cL_law 374 = .ok (.iconst 1, 1) := by decide +kernel
theorem dL_law_375 : decode cL_law 375 = .ok (.iadd, 1) := by decide +kernel
theorem dL_law_376 : decode cL_law 376 = .ok (.iaload, 1) := by decide +kernel
theorem dL_law_377 : decode cL_law 377 = .ok (.invokevirtual 53, 3) := by decide +kernel
theorem dL_law_380 : decode cL_law 380 = .ok (.aload_n 2, 1) := by decide +kernel
theorem dL_law_381 : decode cL_law 381 = .ok (.aload_n 0, 1) := by decide +kernel
theorem dL_law_382 : decode cL_law 382 = .ok (.iload_n 3, 1) := by decide +kernel
theorem dL_law_383 : decode cL_law 383 = .ok (.iconst 1, 1) := by decide +kernel
theorem dL_law_384 : decode cL_law 384 = .ok (.iadd, 1) := by decide +kernel
theorem dL_law_385 : decode cL_law 385 = .ok (.iaload, 1) := by decide +kernel
theorem dL_law_386 : decode cL_law 386 = .ok (.invokevirtual 56, 3) := by decide +kernel
theorem dL_law_389 : decode cL_law 389 = .ok (.if_icmp .eq 337, 3) := by decide +kernel
theorem dL_law_392 : decode cL_law 392 = .ok (.iconst 0, 1) := by decide +kernel
theorem dL_law_393 : decode cL_law 393 = .ok (.ireturn, 1) := by decide +kernel
theorem dL_law_394 : decode cL_law 394 = .ok (.aload_n 1, 1) := by decide +kernel
theorem dL_law_395 : decode cL_law 395 = .ok (.invokevirtual 57, 3) := by decide +kernel
theorem dL_law_398 : decode cL_law 398 = .ok (.aload_n 2, 1) := by decide +kernel
theorem dL_law_399 : decode cL_law 399 = .ok (.invokevirtual 60, 3) := by decide +kernel
theorem dL_law_402 : decode cL_law 402 = .ok (.if_icmp .eq 324, 3) := by decide +kernel
theorem dL_law_405 : decode cL_law 405 = .ok (.iconst 0, 1) := by decide +kernel
theorem dL_law_406 : decode cL_law 406 = .ok (.ireturn, 1) := by decide +kernel
theorem dL_law_407 : decode cL_law 407 = .ok (.aload_n 1, 1) := by decide +kernel
theorem dL_law_408 : decode cL_law 408 = .ok (.aload_n 0, 1) := by decide +kernel
theorem dL_law_409 : decode cL_law 409 = .ok (.iload_n 3, 1) := by decide +kernel
theorem dL_law_410 : decode cL_law 410 = .ok (.iconst 1, 1) := by decide +kernel
theorem dL_law_411 : decode cL_law 411 = .ok (.iadd, 1) := by decide +kernel
theorem dL_law_412 : decode cL_law 412 = .ok (.iaload, 1) := by decide +kernel
theorem dL_law_413 : decode cL_law 413 = .ok (.invokevirtual 61, 3) := by decide +kernel
theorem dL_law_416 : decode cL_law 416 = .ok (.aload_n 2, 1) := by decide +kernel
theorem dL_law_417 : decode cL_law 417 = .ok (.aload_n 0, 1) := by decide +kernel
theorem dL_law_418 : decode cL_law 418 = .ok (.iload_n 3, 1) := by decide +kernel
theorem dL_law_419 : decode cL_law 419 = .ok (.iconst 1, 1) := by decide +kernel
theorem dL_law_420 : decode cL_law 420 = .ok (.iadd, 1) := by decide +kernel
theorem dL_law_421 : decode cL_law 421 = .ok (.iaload, 1) := by decide +kernel
theorem dL_law_422 : decode cL_law 422 = .ok (.invokevirtual 64, 3) := by decide +kernel
theorem dL_law_425 : decode cL_law 425 = .ok (.if_icmp .eq 301, 3) := by decide +kernel
theorem dL_law_428 : decode cL_law 428 = .ok (.iconst 0, 1) := by decide +kernel
theorem dL_law_429 : decode cL_law 429 = .ok (.ireturn, 1) := by decide +kernel
theorem dL_law_430 : decode cL_law 430 = .ok (.aload_n 1, 1) := by decide +kernel
theorem dL_law_431 : decode cL_law 431 = .ok (.aload_n 0, 1) := by decide +kernel
theorem dL_law_432 : decode cL_law 432 = .ok (.iload_n 3, 1) := by decide +kernel
theorem dL_law_433 : decode cL_law 433 = .ok (.iconst 1, 1) := by decide +kernel
theorem dL_law_434 : decode cL_law 434 = .ok (.iadd, 1) := by decide +kernel
theorem dL_law_435 : decode cL_law 435 = .ok (.iaload, 1) := by decide +kernel
theorem dL_law_436 : decode cL_law 436 = .ok (.aload_n 0, 1) := by decide +kernel
theorem dL_law_437 : decode cL_law 437 = .ok (.iload_n 3, 1) := by decide +kernel
theorem dL_law_438 : decode cL_law 438 = .ok (.iconst 2, 1) := by decide +kernel
theorem dL_law_439 : decode cL_law 439 = .ok (.iadd, 1) := by decide +kernel
theorem dL_law_440 : decode cL_law 440 = .ok (.iaload, 1) := by decide +kernel
theorem dL_law_441 : decode cL_law 441 = .ok (.invokevirtual 65, 3) := by decide +kernel
theorem dL_law_444 : decode cL_law 444 = .ok (.aload_n 2, 1) := by decide +kernel
theorem dL_law_445 : decode cL_law 445 = .ok (.aload_n 0, 1) := by decide +kernel
theorem dL_law_446 : decode cL_law 446 = .ok (.iload_n 3, 1) := by decide +kernel
theorem dL_law_447 : decode cL_law 447 = .ok (.iconst 1, 1) := by decide +kernel
theorem dL_law_448 : decode cL_law 448 = .ok (.iadd, 1) := by decide +kernel
theorem dL_law_449 : decode cL_law 449 = .ok (.iaload, 1) := by decide +kernel
theorem dL_law_450 : decode cL_law 450 = .ok (.aload_n 0, 1) := by decide +kernel
theorem dL_law_451 : decode cL_law 451 = .ok (.iload_n 3, 1) := by decide +kernel
theorem dL_law_452 : decode cL_law 452 = .ok (.iconst 2, 1) := by decide +kernel
theorem dL_law_453 : decode cL_law 453 = .ok (.iadd, 1) := by decide +kernel
theorem dL_law_454 : decode cL_law 454 = .ok (.iaload, 1) := by decide +kernel
theorem dL_law_455 : decode cL_law 455 = .ok (.invokevirtual 68, 3) := by decide +kernel
theorem dL_law_458 : decode cL_law 458 = .ok (.if_icmp .eq 268, 3) := by decide +kernel
theorem dL_law_461 : decode cL_law 461 = .ok (.iconst 0, 1) := by decide +kernel
theorem dL_law_462 : decode cL_law 462 = .ok (.ireturn, 1) := by decide +kernel
theorem dL_law_463 : decode cL_law 463 = .ok (.aload_n 1, 1) := by decide +kernel
theorem dL_law_464 : decode cL_law 464 = .ok (.aload_n 0, 1) := by decide +kernel
theorem dL_law_465 : decode cL_law 465 = .ok (.iload_n 3, 1) := by decide +kernel
theorem dL_law_466 : decode cL_law 466 = .ok (.iconst 1, 1) := by decide +kernel
theorem dL_law_467 : decode cL_law 467 = .ok (.iadd, 1) := by decide +kernel
theorem dL_law_468 : decode cL_law 468 = .ok (.iaload, 1) := by decide +kernel
theorem dL_law_469 : decode cL_law 469 = .ok (.invokevirtual 69, 3) := by decide +kernel
theorem dL_law_472 : decode cL_law 472 = .ok (.aload_n 2, 1) := by decide +kernel
theorem dL_law_473 : decode cL_law 473 = .ok (.aload_n 0, 1) := by decide +kernel
theorem dL_law_474 : decode cL_law 474 = .ok (.iload_n 3, 1) := by decide +kernel
theorem dL_law_475 : decode cL_law 475 = .ok (.iconst 1, 1) := by decide +kernel
theorem dL_law_476 : decode cL_law 476 = .ok (.iadd, 1) := by decide +kernel
theorem dL_law_477 : decode cL_law 477 = .ok (.iaload, 1) := by decide +kernel
theorem dL_law_478 : decode cL_law 478 = .ok (.invokevirtual 72, 3) := by decide +kernel
theorem dL_law_481 : decode cL_law 481 = .ok (.if_icmp .eq 245, 3) := by decide +kernel
theorem dL_law_484 : decode cL_law 484 = .ok (.iconst 0, 1) := by decide +kernel
theorem dL_law_485 : decode cL_law 485 = .ok (.ireturn, 1) := by decide +kernel
theorem dL_law_486 : decode cL_law 486 = .ok (.aload_n 1, 1) := by decide +kernel
theorem dL_law_487 : decode cL_law 487 = .ok (.invokevirtual 73, 3) := by decide +kernel
theorem dL_law_490 : decode cL_law 490 = .ok (.aload_n 2, 1) := by decide +kernel
theorem dL_law_491 : decode cL_law 491 = .ok (.invokevirtual 76, 3) := by decide +kernel
theorem dL_law_494 : decode cL_law 494 = .ok (.if_icmp .eq 232, 3) := by decide +kernel
theorem dL_law_497 : decode cL_law 497 = .ok (.iconst 0, 1) := by decide +kernel
theorem dL_law_498 : decode cL_law 498 = .ok (.ireturn, 1) := by decide +kernel
theorem dL_law_499 : decode cL_law 499 = .ok (.aload_n 1, 1) := by decide +kernel
theorem dL_law_500 : decode cL_law 500 = .ok (.invokevirtual 77, 3) := by decide +kernel
theorem dL_law_503 : decode cL_law 503 = .ok (.aload_n 2, 1) := by decide +kernel
theorem dL_law_504 : decode cL_law 504 = .ok (.invokevirtual 80, 3) := by decide +kernel
theorem dL_law_507 : decode cL_law 507 = .ok (.if_icmp .eq 219, 3) := by decide +kernel
theorem dL_law_510 : decode cL_law 510 = .ok (.iconst 0, 1) := by decide +kernel
theorem dL_law_511 : decode cL_law 511 = .ok (.ireturn, 1) := by decide +kernel
theorem dL_law_512 : decode cL_law 512 = .ok (.aload_n 1, 1) := by decide +kernel
theorem dL_law_513 : decode cL_law 513 = .ok (.invokevirtual 81, 3) := by decide +kernel
theorem dL_law_516 : decode cL_law 516 = .ok (.aload_n 2, 1) := by decide +kernel
theorem dL_law_517 : decode cL_law 517 = .ok (.invokevirtual 84, 3) := by decide +kernel
theorem dL_law_520 : decode cL_law 520 = .ok (.if_icmp .eq 206, 3) := by decide +kernel
theorem dL_law_523 : decode cL_law 523 = .ok (.iconst 0, 1) := by decide +kernel
theorem dL_law_524 : decode cL_law 524 = .ok (.ireturn, 1) := by decide +kernel
theorem dL_law_525 : decode cL_law 525 = .ok (.aload_n 1, 1) := by decide +kernel
theorem dL_law_526 : decode cL_law 526 = .ok (.aload_n 0, 1) := by decide +kernel
theorem dL_law_527 : decode cL_law 527 = .ok (.iload_n 3, 1) := by decide +kernel
theorem dL_law_528 : decode cL_law 528 = .ok (.iconst 1, 1) := by decide +kernel
theorem dL_law_529 : decode cL_law 529 = .ok (.iadd, 1) := by decide +kernel
theorem dL_law_530 : decode cL_law 530 = .ok (.iaload, 1) := by decide +kernel
theorem dL_law_531 : decode cL_law 531 = .ok (.aload_n 0, 1) := by decide +kernel
theorem dL_law_532 : decode cL_law 532 = .ok (.iload_n 3, 1) := by decide +kernel
theorem dL_law_533 : decode cL_law 533 = .ok (.iconst 2, 1) := by decide +kernel
theorem dL_law_534 : decode cL_law 534 = .ok (.iadd, 1) := by decide +kernel
theorem dL_law_535 : decode cL_law 535 = .ok (.iaload, 1) := by decide +kernel
theorem dL_law_536 : decode cL_law 536 = .ok (.aload_n 0, 1) := by decide +kernel
theorem dL_law_537 : decode cL_law 537 = .ok (.iload_n 3, 1) := by decide +kernel
theorem dL_law_538 : decode cL_law 538 = .ok (.iconst 3, 1) := by decide +kernel
theorem dL_law_539 : decode cL_law 539 = .ok (.iadd, 1) := by decide +kernel
theorem dL_law_540 : decode cL_law 540 = .ok (.iaload, 1) := by decide +kernel
theorem dL_law_541 : decode cL_law 541 = .ok (.ifCond .eq 7, 3) := by decide +kernel
theorem dL_law_544 : decode cL_law 544 = .ok (.iconst 1, 1) := by decide +kernel
theorem dL_law_545 : decode cL_law 545 = .ok (.goto 4, 3) := by decide +kernel
theorem dL_law_548 : decode cL_law 548 = .ok (.iconst 0, 1) := by decide +kernel
theorem dL_law_549 : decode cL_law 549 = .ok (.invokevirtual 85, 3) := by decide +kernel
theorem dL_law_552 : decode cL_law 552 = .ok (.aload_n 2, 1) := by decide +kernel
theorem dL_law_553 : decode cL_law 553 = .ok (.aload_n 0, 1) := by decide +kernel
theorem dL_law_554 : decode cL_law 554 = .ok (.iload_n 3, 1) := by decide +kernel
theorem dL_law_555 : decode cL_law 555 = .ok (.iconst 1, 1) := by decide +kernel
theorem dL_law_556 : decode cL_law 556 = .ok (.iadd, 1) := by decide +kernel
theorem dL_law_557 : decode cL_law 557 = .ok (.iaload, 1) := by decide +kernel
theorem dL_law_558 : decode cL_law 558 = .ok (.aload_n 0, 1) := by decide +kernel
theorem dL_law_559 : decode cL_law 559 = .ok (.iload_n 3, 1) := by decide +kernel
theorem dL_law_560 : decode cL_law 560 = .ok (.iconst 2, 1) := by decide +kernel
theorem dL_law_561 : decode cL_law 561 = .ok (.iadd, 1) := by decide +kernel
theorem dL_law_562 : decode cL_law 562 = .ok (.iaload, 1) := by decide +kernel
theorem dL_law_563 : decode cL_law 563 = .ok (.aload_n 0, 1) := by decide +kernel
theorem dL_law_564 : decode cL_law 564 = .ok (.iload_n 3, 1) := by decide +kernel
theorem dL_law_565 : decode cL_law 565 = .ok (.iconst 3, 1) := by decide +kernel
theorem dL_law_566 : decode cL_law 566 = .ok (.iadd, 1) := by decide +kernel
theorem dL_law_567 : decode cL_law 567 = .ok (.iaload, 1) := by decide +kernel
theorem dL_law_568 : decode cL_law 568 = .ok (.ifCond .eq 7, 3) := by decide +kernel
theorem dL_law_571 : decode cL_law 571 = .ok (.iconst 1, 1) := by decide +kernel
theorem dL_law_572 : decode cL_law 572 = .ok (.goto 4, 3) := by decide +kernel
theorem dL_law_575 : decode cL_law 575 = .ok (.iconst 0, 1) := by decide +kernel
theorem dL_law_576 : decode cL_law 576 = .ok (.invokevirtual 89, 3) := by decide +kernel
theorem dL_law_579 : decode cL_law 579 = .ok (.if_icmp .eq 147, 3) := by decide +kernel
theorem dL_law_582 : decode cL_law 582 = .ok (.iconst 0, 1) := by decide +kernel
theorem dL_law_583 : decode cL_law 583 = .ok (.ireturn, 1) := by decide +kernel
theorem dL_law_584 : decode cL_law 584 = .ok (.aload_n 1, 1) := by decide +kernel
theorem dL_law_585 : decode cL_law 585 = .ok (.invokevirtual 90, 3) := by decide +kernel
theorem dL_law_588 : decode cL_law 588 = .ok (.aload_n 2, 1) := by decide +kernel
theorem dL_law_589 : decode cL_law 589 = .ok (.invokevirtual 93, 3) := by decide +kernel
theorem dL_law_592 : decode cL_law 592 = .ok (.if_icmp .eq 134, 3) := by decide +kernel
theorem dL_law_595 : decode cL_law 595 = .ok (.iconst 0, 1) := by decide +kernel
theorem dL_law_596 : decode cL_law 596 = .ok (.ireturn, 1) := by decide +kernel
theorem dL_law_597 : decode cL_law 597 = .ok (.aload_n 1, 1) := by decide +kernel
theorem dL_law_598 : decode cL_law 598 = .ok (.aload_n 0, 1) := by decide +kernel
theorem dL_law_599 : decode cL_law 599 = .ok (.iload_n 3, 1) := by decide +kernel
theorem dL_law_600 : decode cL_law 600 = .ok (.iconst 1, 1) := by decide +kernel
theorem dL_law_601 : decode cL_law 601 = .ok (.iadd, 1) := by decide +kernel
theorem dL_law_602 : decode cL_law 602 = .ok (.iaload, 1) := by decide +kernel
theorem dL_law_603 : decode cL_law 603 = .ok (.invokevirtual 94, 3) := by decide +kernel
theorem dL_law_606 : decode cL_law 606 = .ok (.aload_n 2, 1) := by decide +kernel
theorem dL_law_607 : decode cL_law 607 = .ok (.aload_n 0, 1) := by decide +kernel
theorem dL_law_608 : decode cL_law 608 = .ok (.iload_n 3, 1) := by decide +kernel
theorem dL_law_609 : decode cL_law 609 = .ok (.iconst 1, 1) := by decide +kernel
theorem dL_law_610 : decode cL_law 610 = .ok (.iadd, 1) := by decide +kernel
theorem dL_law_611 : decode cL_law 611 = .ok (.iaload, 1) := by decide +kernel
theorem dL_law_612 : decode cL_law 612 = .ok (.invokevirtual 97, 3) := by decide +kernel
theorem dL_law_615 : decode cL_law 615 = .ok (.if_icmp .eq 111, 3) := by decide +kernel
theorem dL_law_618 : decode cL_law 618 = .ok (.iconst 0, 1) := by decide +kernel
theorem dL_law_619 : decode cL_law 619 = .ok (.ireturn, 1) := by decide +kernel
theorem dL_law_620 : decode cL_law 620 = .ok (.aload_n 1, 1) := by decide +kernel
theorem dL_law_621 : decode cL_law 621 = .ok (.aload_n 0, 1) := by decide +kernel
theorem dL_law_622 : decode cL_law 622 = .ok (.iload_n 3, 1) := by decide +kernel
theorem dL_law_623 : decode cL_law 623 = .ok (.iconst 1, 1) := by decide +kernel
theorem dL_law_624 : decode cL_law 624 = .ok (.iadd, 1) := by decide +kernel
theorem dL_law_625 : decode cL_law 625 = .ok (.iaload, 1) := by decide +kernel
theorem dL_law_626 : decode cL_law 626 = .ok (.aload_n 0, 1) := by decide +kernel
theorem dL_law_627 : decode cL_law 627 = .ok (.iload_n 3, 1) := by decide +kernel
theorem dL_law_628 : decode cL_law 628 = .ok (.iconst 2, 1) := by decide +kernel
theorem dL_law_629 : decode cL_law 629 = .ok (.iadd, 1) := by decide +kernel
theorem dL_law_630 : decode cL_law 630 = .ok (.iaload, 1) := by decide +kernel
theorem dL_law_631 : decode cL_law 631 = .ok (.aload_n 0, 1) := by decide +kernel
theorem dL_law_632 : decode cL_law 632 = .ok (.iload_n 3, 1) := by decide +kernel
theorem dL_law_633 : decode cL_law 633 = .ok (.iconst 3, 1) := by decide +kernel
theorem dL_law_634 : decode cL_law 634 = .ok (.iadd, 1) := by decide +kernel
theorem dL_law_635 : decode cL_law 635 = .ok (.iaload, 1) := by decide +kernel
theorem dL_law_636 : decode cL_law 636 = .ok (.invokevirtual 98, 3) := by decide +kernel
theorem dL_law_639 : decode cL_law 639 = .ok (.aload_n 2, 1) := by decide +kernel
theorem dL_law_640 : decode cL_law 640 = .ok (.aload_n 0, 1) := by decide +kernel
theorem dL_law_641 : decode cL_law 641 = .ok (.iload_n 3, 1) := by decide +kernel
theorem dL_law_642 : decode cL_law 642 = .ok (.iconst 1, 1) := by decide +kernel
theorem dL_law_643 : decode cL_law 643 = .ok (.iadd, 1) := by decide +kernel
theorem dL_law_644 : decode cL_law 644 = .ok (.iaload, 1) := by decide +kernel
theorem dL_law_645 : decode cL_law 645 = .ok (.aload_n 0, 1) := by decide +kernel
theorem dL_law_646 : decode cL_law 646 = .ok (.iload_n 3, 1) := by decide +kernel
theorem dL_law_647 : decode cL_law 647 = .ok (.iconst 2, 1) := by decide +kernel
theorem dL_law_648 : decode cL_law 648 = .ok (.iadd, 1) := by decide +kernel
theorem dL_law_649 : decode cL_law 649 = .ok (.iaload, 1) := by decide +kernel
theorem dL_law_650 : decode cL_law 650 = .ok (.aload_n 0, 1) := by decide +kernel
theorem dL_law_651 : decode cL_law 651 = .ok (.iload_n 3, 1) := by decide +kernel
theorem dL_law_652 : decode cL_law 652 = .ok (.iconst 3, 1) := by decide +kernel
theorem dL_law_653 : decode cL_law 653 = .ok (.iadd, 1) := by decide +kernel
theorem dL_law_654 : decode cL_law 654 = .ok (.iaload, 1) := by decide +kernel
theorem dL_law_655 : decode cL_law 655 = .ok (.invokevirtual 102, 3) := by decide +kernel
theorem dL_law_658 : decode cL_law 658 = .ok (.if_icmp .eq 68, 3) := by decide +kernel
theorem dL_law_661 : decode cL_law 661 = .ok (.iconst 0, 1) := by decide +kernel
theorem dL_law_662 : decode cL_law 662 = .ok (.ireturn, 1) := by decide +kernel
theorem dL_law_663 : decode cL_law 663 = .ok (.aload_n 1, 1) := by decide +kernel
theorem dL_law_664 : decode cL_law 664 = .ok (.invokevirtual 103, 3) := by decide +kernel
theorem dL_law_667 : decode cL_law 667 = .ok (.aload_n 2, 1) := by decide +kernel
theorem dL_law_668 : decode cL_law 668 = .ok (.invokevirtual 106, 3) := by decide +kernel
theorem dL_law_671 : decode cL_law 671 = .ok (.if_icmp .eq 55, 3) := by decide +kernel
theorem dL_law_674 : decode cL_law 674 = .ok (.iconst 0, 1) := by decide +kernel
theorem dL_law_675 : decode cL_law 675 = .ok (.ireturn, 1) := by decide +kernel
theorem dL_law_676 : decode cL_law 676 = .ok (.aload_n 1, 1) := by decide +kernel
theorem dL_law_677 : decode cL_law 677 = .ok (.invokevirtual 107, 3) := by decide +kernel
theorem dL_law_680 : decode cL_law 680 = .ok (.aload_n 2, 1) := by decide +kernel
theorem dL_law_681 : decode cL_law 681 = .ok (.invokevirtual 110, 3) := by decide +kernel
theorem dL_law_684 : decode cL_law 684 = .ok (.if_icmp .eq 42, 3) := by decide +kernel
theorem dL_law_687 : decode cL_law 687 = .ok (.iconst 0, 1) := by decide +kernel
theorem dL_law_688 : decode cL_law 688 = .ok (.ireturn, 1) := by decide +kernel
theorem dL_law_689 : decode cL_law 689 = .ok (.aload_n 1, 1) := by decide +kernel
theorem dL_law_690 : decode cL_law 690 = .ok (.aload_n 0, 1) := by decide +kernel
theorem dL_law_691 : decode cL_law 691 = .ok (.iload_n 3, 1) := by decide +kernel
theorem dL_law_692 : decode cL_law 692 = .ok (.iconst 1, 1) := by decide +kernel
theorem dL_law_693 : decode cL_law 693 = .ok (.iadd, 1) := by decide +kernel
theorem dL_law_694 : decode cL_law 694 = .ok (.iaload, 1) := by decide +kernel
theorem dL_law_695 : decode cL_law 695 = .ok (.invokevirtual 111, 3) := by decide +kernel
theorem dL_law_698 : decode cL_law 698 = .ok (.aload_n 2, 1) := by decide +kernel
theorem dL_law_699 : decode cL_law 699 = .ok (.aload_n 0, 1) := by decide +kernel
theorem dL_law_700 : decode cL_law 700 = .ok (.iload_n 3, 1) := by decide +kernel
theorem dL_law_701 : decode cL_law 701 = .ok (.iconst 1, 1) := by decide +kernel
theorem dL_law_702 : decode cL_law 702 = .ok (.iadd, 1) := by decide +kernel
theorem dL_law_703 : decode cL_law 703 = .ok (.iaload, 1) := by decide +kernel
theorem dL_law_704 : decode cL_law 704 = .ok (.invokevirtual 114, 3) := by decide +kernel
theorem dL_law_707 : decode cL_law 707 = .ok (.if_icmp .eq 19, 3) := by decide +kernel
theorem dL_law_710 : decode cL_law 710 = .ok (.iconst 0, 1) := by decide +kernel
theorem dL_law_711 : decode cL_law 711 = .ok (.ireturn, 1) := by decide +kernel
theorem dL_law_712 : decode cL_law 712 = .ok (.aload_n 1, 1) := by decide +kernel
theorem dL_law_713 : decode cL_law 713 = .ok (.invokevirtual 115, 3) := by decide +kernel
theorem dL_law_716 : decode cL_law 716 = .ok (.aload_n 2, 1) := by decide +kernel
theorem dL_law_717 : decode cL_law 717 = .ok (.invokevirtual 119, 3) := by decide +kernel
theorem dL_law_720 : decode cL_law 720 = .ok (.lcmp, 1) := by decide +kernel
theorem dL_law_721 : decode cL_law 721 = .ok (.ifCond .eq 5, 3) := by decide +kernel
theorem dL_law_724 : decode cL_law 724 = .ok (.iconst 0, 1) := by decide +kernel
theorem dL_law_725 : decode cL_law 725 = .ok (.ireturn, 1) := by decide +kernel
theorem dL_law_726 : decode cL_law 726 = .ok (.iinc 3 4, 3) := by decide +kernel
theorem dL_law_729 : decode cL_law 729 = .ok (.goto (-711), 3) := by decide +kernel
theorem dL_law_732 : decode cL_law 732 = .ok (.iconst 1, 1) := by decide +kernel
theorem dL_law_733 : decode cL_law 733 = .ok (.ireturn, 1) := by decide +kernel
