set_option maxRecDepth 20000 in
theorem ggL_law_X4_init : GoodIn wsL_law wsX4_init := goodIn_r _ [8, 9, 10, 11, 12, 13, 14, 15, 16, 17, 18, 19, 20, 21, 22, 23, 24, 25, 26, 27, 28, 29, 30, 31, 32, 33, 34, 35, 36, 37, 38, 39, 40, 41, 42, 43, 44, 45, 46, 47, 48, 49, 50, 51, 52, 53, 54, 55, 56, 57, 58, 59, 60, 61, 62, 63, 939, 940, 941, 942, 943, 909, 910, 911, 912, 913, 914, 915, 916, 917, 918, 944, 945, 946, 947, 948, 949, 950, 951, 952] (by decide +kernel) (by decide +kernel)
set_option maxRecDepth 20000 in
theorem gL_law_X4_init : GoodIn wsL_law (wsX4_init) := ggL_law_X4_init
set_option maxRecDepth 20000 in
theorem ggL_law_X5_init : GoodIn wsL_law wsX5_init := goodIn_r _ [66, 67, 10, 11, 31, 68, 69, 70, 71, 72, 73, 74, 75, 76, 77, 78, 79, 80, 81, 82, 919, 920, 921, 922, 923, 924, 925, 926, 927, 928, 929, 930, 931, 932, 933, 934, 935, 936, 937, 938] (by decide +kernel) (by decide +kernel)
set_option maxRecDepth 20000 in
theorem gL_law_X5_init : GoodIn wsL_law (wsX5_init) := ggL_law_X5_init
set_option maxRecDepth 20000 in
theorem ggL_law_X4_letter : GoodIn wsL_law wsX4_letter := goodIn_r _ [86, 30, 87, 88, 89, 2, 90, 34, 91, 92, 93, 29, 94, 63, 95, 96, 97, 98, 62, 99, 909, 910, 911, 912, 913, 914, 915, 916, 917, 918, 951, 952] (by decide +kernel) (by decide +kernel)
set_option maxRecDepth 20000 in
theorem gL_law_X4_letter : GoodIn wsL_law (wsV RL 13 RX4 yX4_letter wsX4_letter) := goodIn_app (goodIn_of _ (by decide +kernel)) ggL_law_X4_letter
set_option maxRecDepth 20000 in
theorem ggL_law_X5_letter : GoodIn wsL_law wsX5_letter := goodIn_r _ [103, 104, 76, 105, 106, 107, 5, 108, 68, 919, 920, 921, 922, 923, 924, 925, 926, 927, 928, 929, 930, 931, 932, 933, 934, 935, 936, 937, 938] (by decide +kernel) (by decide +kernel)
set_option maxRecDepth 20000 in
theorem gL_law_X5_letter : GoodIn wsL_law (wsV RL 17 RX5 yX5_letter wsX5_letter) := goodIn_app (goodIn_of _ (by decide +kernel)) ggL_law_X5_letter
set_option maxRecDepth 20000 in
theorem ggL_law_X4_shed : GoodIn wsL_law wsX4_shed := goodIn_r _ [112, 16, 15, 30, 22, 113, 114, 115, 14, 116, 39, 40, 41, 42, 43, 117, 118, 119, 29, 120, 63, 121, 122, 123, 124, 125, 126, 127, 128, 62, 129, 130, 131, 132, 133, 134, 135, 136, 137, 138, 139, 140, 141, 142, 143, 144, 145, 146, 147, 148, 149, 150, 151, 152, 153, 154, 155, 156, 157, 158, 159, 160, 161, 162, 163, 164, 165, 166, 167, 168, 169, 170, 171, 172, 173, 174, 175, 176, 177, 178, 179, 180, 181, 182, 183, 184, 185, 186, 187, 188, 189, 190, 191, 192, 193, 194, 195, 196, 197, 198, 199, 200, 201, 202, 203, 204, 205, 206, 207, 208, 209, 210, 211, 212, 213, 214, 215, 216, 217, 218, 219, 220, 221, 222, 223, 224, 225, 226, 227, 228, 229, 230, 231, 232, 233, 234, 235, 236, 237, 238, 239, 240, 241, 242, 243, 244, 245, 246, 247, 248, 249, 250, 251, 252, 253, 254, 255, 256, 257, 258, 259, 260, 261, 262, 263, 264, 265, 266, 267, 268, 2, 269, 270, 271, 272, 273, 274, 275, 276, 277, 278, 279, 280, 281, 282, 283, 284, 285, 286, 287, 288, 289, 290, 291, 292, 293, 294, 295, 296, 21, 297, 298, 299, 48, 47, 300, 301, 302, 303, 304, 305, 306, 307, 308, 309, 310, 311, 312, 313, 314, 315, 316, 317, 318, 319, 320, 321, 322, 323, 324, 325, 326, 327, 328, 329, 909, 910, 911, 912, 913, 914, 915, 916, 917, 918, 939, 940, 941, 942, 943, 951, 952, 944, 945] (by decide +kernel) (by decide +kernel)
set_option maxRecDepth 20000 in
theorem gL_law_X4_shed : GoodIn wsL_law (wsV RL 18 RX4 yX4_shed wsX4_shed) := goodIn_app (goodIn_of _ (by decide +kernel)) ggL_law_X4_shed
set_option maxRecDepth 20000 in
theorem ggL_law_X5_shed : GoodIn wsL_law wsX5_shed := goodIn_r _ [333, 104, 334, 335, 336, 5, 337, 338, 339, 69, 82, 340, 341, 342, 343, 78, 344, 81, 79, 80, 76, 345, 346, 347, 348, 349, 350, 351, 352, 353, 354, 355, 356, 357, 358, 359, 360, 361, 362, 363, 364, 365, 366, 367, 368, 369, 370, 72, 71, 371, 372, 373, 374, 73, 375, 376, 377, 378, 379, 204, 205, 206, 380, 314, 315, 381, 382, 383, 384, 385, 386, 387, 388, 389, 208, 209, 919, 920, 921, 922, 923, 924, 925, 926, 927, 928, 929, 930, 931, 932, 933, 934, 935, 936, 937, 938] (by decide +kernel) (by decide +kernel)
set_option maxRecDepth 20000 in
theorem gL_law_X5_shed : GoodIn wsL_law (wsV RL 22 RX5 yX5_shed wsX5_shed) := goodIn_app (goodIn_of _ (by decide +kernel)) ggL_law_X5_shed
set_option maxRecDepth 20000 in
theorem ggL_law_X4_likely : GoodIn wsL_law wsX4_likely := goodIn_r _ [393, 15, 394, 395, 268, 2, 269, 87, 88, 89, 90, 34, 909, 910, 911, 912, 913, 914, 915, 916, 917, 918, 939, 940, 941, 942, 943] (by decide +kernel) (by decide +kernel)
set_option maxRecDepth 20000 in
theorem gL_law_X4_likely : GoodIn wsL_law (wsV RL 23 RX4 yX4_likely wsX4_likely) := goodIn_app (goodIn_of _ (by decide +kernel)) ggL_law_X4_likely
set_option maxRecDepth 20000 in
theorem ggL_law_X5_likely : GoodIn wsL_law wsX5_likely := goodIn_r _ [399, 69, 360, 361, 5, 362, 105, 106, 107, 108, 68, 919, 920, 921, 922, 923, 924, 925, 926, 927, 928, 929, 930, 931, 932, 933, 934, 935, 936, 937, 938] (by decide +kernel) (by decide +kernel)
set_option maxRecDepth 20000 in
theorem gL_law_X5_likely : GoodIn wsL_law (wsV RL 26 RX5 yX5_likely wsX5_likely) := goodIn_app (goodIn_of _ (by decide +kernel)) ggL_law_X5_likely
set_option maxRecDepth 20000 in
theorem ggL_law_X4_make : GoodIn wsL_law wsX4_make := goodIn_r _ [403, 15, 394, 395, 268, 2, 269, 87, 88, 89, 90, 34, 909, 910, 911, 912, 913, 914, 915, 916, 917, 918, 939, 940, 941, 942, 943] (by decide +kernel) (by decide +kernel)
set_option maxRecDepth 20000 in
theorem gL_law_X4_make : GoodIn wsL_law (wsV RL 27 RX4 yX4_make wsX4_make) := goodIn_app (goodIn_of _ (by decide +kernel)) ggL_law_X4_make
set_option maxRecDepth 20000 in
theorem ggL_law_X5_make : GoodIn wsL_law wsX5_make := goodIn_r _ [407, 360, 361, 5, 362, 105, 106, 107, 108, 68, 408, 409, 410, 411, 69, 919, 920, 921, 922, 923, 924, 925, 926, 927, 928, 929, 930, 931, 932, 933, 934, 935, 936, 937, 938] (by decide +kernel) (by decide +kernel)
set_option maxRecDepth 20000 in
theorem gL_law_X5_make : GoodIn wsL_law (wsV RL 31 RX5 yX5_make wsX5_make) := goodIn_app (goodIn_of _ (by decide +kernel)) ggL_law_X5_make
set_option maxRecDepth 20000 in
theorem ggL_law_X4_set : GoodIn wsL_law wsX4_set := goodIn_r _ [415, 416, 417, 15, 418, 87, 88, 89, 2, 90, 34, 909, 910, 911, 912, 913, 914, 915, 916, 917, 918, 939, 940, 941, 942, 943] (by decide +kernel) (by decide +kernel)
set_option maxRecDepth 20000 in
theorem gL_law_X4_set : GoodIn wsL_law (wsV RL 32 RX4 yX4_set wsX4_set) := goodIn_app (goodIn_of _ (by decide +kernel)) ggL_law_X4_set
set_option maxRecDepth 20000 in
theorem ggL_law_X5_set : GoodIn wsL_law wsX5_set := goodIn_r _ [422, 105, 106, 107, 5, 108, 68, 408, 409, 410, 411, 69, 919, 920, 921, 922, 923, 924, 925, 926, 927, 928, 929, 930, 931, 932, 933, 934, 935, 936, 937, 938] (by decide +kernel) (by decide +kernel)
set_option maxRecDepth 20000 in
theorem gL_law_X5_set : GoodIn wsL_law (wsV RL 35 RX5 yX5_set wsX5_set) := goodIn_app (goodIn_of _ (by decide +kernel)) ggL_law_X5_set
set_option maxRecDepth 20000 in
theorem ggL_law_X4_kind : GoodIn wsL_law wsX4_kind := goodIn_r _ [426, 15, 427, 428, 429, 278, 2, 279, 430, 284, 285, 87, 88, 89, 90, 34, 909, 910, 911, 912, 913, 914, 915, 916, 917, 918, 939, 940, 941, 942, 943] (by decide +kernel) (by decide +kernel)
set_option maxRecDepth 20000 in
theorem gL_law_X4_kind : GoodIn wsL_law (wsV RL 36 RX4 yX4_kind wsX4_kind) := goodIn_app (goodIn_of _ (by decide +kernel)) ggL_law_X4_kind
set_option maxRecDepth 20000 in
theorem ggL_law_X5_kind : GoodIn wsL_law wsX5_kind := goodIn_r _ [434, 105, 106, 107, 5, 108, 68, 408, 409, 410, 411, 69, 919, 920, 921, 922, 923, 924, 925, 926, 927, 928, 929, 930, 931, 932, 933, 934, 935, 936, 937, 938] (by decide +kernel) (by decide +kernel)
set_option maxRecDepth 20000 in
theorem gL_law_X5_kind : GoodIn wsL_law (wsV RL 39 RX5 yX5_kind wsX5_kind) := goodIn_app (goodIn_of _ (by decide +kernel)) ggL_law_X5_kind
set_option maxRecDepth 20000 in
theorem ggL_law_X4_band : GoodIn wsL_law wsX4_band := goodIn_r _ [438, 22, 15, 427, 395, 268, 2, 269, 439, 440, 441, 442, 418, 87, 88, 89, 90, 34, 443, 295, 296, 21, 297, 298, 299, 208, 205, 209, 48, 47, 300, 301, 302, 303, 304, 305, 306, 307, 308, 444, 445, 446, 447, 909, 910, 911, 912, 913, 914, 915, 916, 917, 918, 939, 940, 941, 942, 943, 944, 945] (by decide +kernel) (by decide +kernel)
set_option maxRecDepth 20000 in
theorem gL_law_X4_band : GoodIn wsL_law (wsV RL 40 RX4 yX4_band wsX4_band) := goodIn_app (goodIn_of _ (by decide +kernel)) ggL_law_X4_band
set_option maxRecDepth 20000 in
theorem ggL_law_X5_band : GoodIn wsL_law wsX5_band := goodIn_r _ [451, 69, 360, 361, 5, 362, 105, 106, 107, 108, 68, 385, 386, 387, 388, 389, 208, 205, 209, 919, 920, 921, 922, 923, 924, 925, 926, 927, 928, 929, 930, 931, 932, 933, 934, 935, 936, 937, 938] (by decide +kernel) (by decide +kernel)
set_option maxRecDepth 20000 in
theorem gL_law_X5_band : GoodIn wsL_law (wsV RL 43 RX5 yX5_band wsX5_band) := goodIn_app (goodIn_of _ (by decide +kernel)) ggL_law_X5_band
set_option maxRecDepth 20000 in
theorem ggL_law_X4_told : GoodIn wsL_law wsX4_told := goodIn_r _ [455, 22, 15, 427, 428, 418, 395, 268, 2, 269, 87, 88, 89, 90, 34, 443, 295, 296, 21, 297, 298, 299, 208, 205, 209, 48, 47, 300, 301, 302, 303, 304, 305, 306, 307, 308, 456, 310, 311, 312, 313, 314, 315, 316, 317, 318, 319, 204, 206, 909, 910, 911, 912, 913, 914, 915, 916, 917, 918, 939, 940, 941, 942, 943, 944, 945] (by decide +kernel) (by decide +kernel)
set_option maxRecDepth 20000 in
theorem gL_law_X4_told : GoodIn wsL_law (wsV RL 44 RX4 yX4_told wsX4_told) := goodIn_app (goodIn_of _ (by decide +kernel)) ggL_law_X4_told
set_option maxRecDepth 20000 in
theorem ggL_law_X5_told : GoodIn wsL_law wsX5_told := goodIn_r _ [460, 360, 361, 5, 362, 105, 106, 107, 108, 68, 375, 376, 377, 378, 69, 379, 204, 205, 206, 380, 314, 315, 381, 382, 383, 384, 385, 386, 387, 388, 389, 208, 209, 919, 920, 921, 922, 923, 924, 925, 926, 927, 928, 929, 930, 931, 932, 933, 934, 935, 936, 937, 938] (by decide +kernel) (by decide +kernel)
set_option maxRecDepth 20000 in
theorem gL_law_X5_told : GoodIn wsL_law (wsV RL 47 RX5 yX5_told wsX5_told) := goodIn_app (goodIn_of _ (by decide +kernel)) ggL_law_X5_told
