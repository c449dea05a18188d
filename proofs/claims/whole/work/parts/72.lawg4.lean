set_option maxRecDepth 20000 in
theorem ggL_law_X4_costs : GoodIn wsL_law wsX4_costs := goodIn_r _ [823, 15, 418, 550, 551, 552, 2, 553, 554, 87, 88, 89, 90, 34, 395, 268, 269, 555, 556, 557, 509, 510, 511, 14, 512, 39, 566, 563, 564, 565, 324, 325, 824, 654, 655, 656, 657, 314, 205, 315, 40, 567, 568, 569, 570, 571, 572, 909, 910, 911, 912, 913, 914, 915, 916, 917, 918, 939, 940, 941, 942, 943] (by decide +kernel) (by decide +kernel)
set_option maxRecDepth 20000 in
theorem gL_law_X4_costs : GoodIn wsL_law (wsV RL 124 RX4 yX4_costs wsX4_costs) := goodIn_app (goodIn_of _ (by decide +kernel)) ggL_law_X4_costs
set_option maxRecDepth 20000 in
theorem ggL_law_X5_costs : GoodIn wsL_law wsX5_costs := goodIn_r _ [828, 69, 577, 578, 579, 5, 580, 581, 105, 106, 107, 108, 68, 360, 361, 362, 582, 583, 584, 617, 618, 619, 620, 589, 590, 591, 666, 667, 668, 669, 380, 314, 205, 315, 592, 593, 594, 919, 920, 921, 922, 923, 924, 925, 926, 927, 928, 929, 930, 931, 932, 933, 934, 935, 936, 937, 938] (by decide +kernel) (by decide +kernel)
set_option maxRecDepth 20000 in
theorem gL_law_X5_costs : GoodIn wsL_law (wsV RL 128 RX5 yX5_costs wsX5_costs) := goodIn_app (goodIn_of _ (by decide +kernel)) ggL_law_X5_costs
set_option maxRecDepth 20000 in
theorem ggL_law_X4_worth : GoodIn wsL_law wsX4_worth := goodIn_r _ [832, 15, 417, 509, 510, 511, 14, 512, 39, 87, 88, 89, 2, 90, 34, 566, 563, 564, 565, 324, 325, 674, 675, 676, 677, 678, 650, 651, 652, 653, 654, 655, 656, 657, 314, 205, 315, 40, 687, 688, 689, 690, 26, 427, 497, 498, 499, 25, 500, 57, 501, 502, 54, 278, 279, 503, 504, 505, 506, 53, 56, 507, 295, 296, 21, 297, 298, 299, 208, 209, 48, 47, 300, 301, 302, 303, 304, 305, 306, 307, 308, 508, 310, 311, 312, 313, 316, 317, 318, 319, 204, 206, 602, 603, 604, 605, 606, 607, 608, 609, 610, 559, 560, 561, 517, 518, 519, 520, 268, 269, 562, 473, 474, 475, 476, 477, 478, 479, 480, 481, 611, 514, 515, 516, 612, 534, 535, 536, 537, 691, 692, 693, 694, 695, 909, 910, 911, 912, 913, 914, 915, 916, 917, 918, 939, 940, 941, 942, 943, 946, 947, 948, 949, 950, 944, 945] (by decide +kernel) (by decide +kernel)
set_option maxRecDepth 20000 in
theorem gL_law_X4_worth : GoodIn wsL_law (wsV RL 129 RX4 yX4_worth wsX4_worth) := goodIn_app (goodIn_of _ (by decide +kernel)) ggL_law_X4_worth
set_option maxRecDepth 20000 in
theorem ggL_law_X5_worth : GoodIn wsL_law wsX5_worth := goodIn_r _ [836, 69, 617, 618, 619, 5, 620, 589, 590, 591, 105, 106, 107, 108, 68, 662, 663, 664, 665, 666, 667, 668, 669, 380, 314, 205, 315, 700, 701, 702, 703, 74, 621, 622, 623, 624, 389, 208, 209, 625, 626, 627, 628, 542, 543, 544, 545, 72, 379, 204, 206, 371, 372, 373, 374, 73, 71, 375, 376, 377, 378, 381, 382, 383, 384, 385, 386, 387, 388, 585, 586, 587, 588, 525, 526, 527, 528, 353, 354, 355, 367, 368, 369, 370, 919, 920, 921, 922, 923, 924, 925, 926, 927, 928, 929, 930, 931, 932, 933, 934, 935, 936, 937, 938] (by decide +kernel) (by decide +kernel)
set_option maxRecDepth 20000 in
theorem gL_law_X5_worth : GoodIn wsL_law (wsV RL 132 RX5 yX5_worth wsX5_worth) := goodIn_app (goodIn_of _ (by decide +kernel)) ggL_law_X5_worth
set_option maxRecDepth 20000 in
theorem ggL_law_X4_row : GoodIn wsL_law wsX4_row := goodIn_r _ [840, 33, 32, 87, 88, 89, 2, 90, 34, 909, 910, 911, 912, 913, 914, 915, 916, 917, 918] (by decide +kernel) (by decide +kernel)
set_option maxRecDepth 20000 in
theorem gL_law_X4_row : GoodIn wsL_law (wsV RL 133 RX4 yX4_row wsX4_row) := goodIn_app (goodIn_of _ (by decide +kernel)) ggL_law_X4_row
set_option maxRecDepth 20000 in
theorem ggL_law_X5_row : GoodIn wsL_law wsX5_row := goodIn_r _ [844, 801, 75, 105, 106, 107, 5, 108, 68, 919, 920, 921, 922, 923, 924, 925, 926, 927, 928, 929, 930, 931, 932, 933, 934, 935, 936, 937, 938] (by decide +kernel) (by decide +kernel)
set_option maxRecDepth 20000 in
theorem gL_law_X5_row : GoodIn wsL_law (wsV RL 136 RX5 yX5_row wsX5_row) := goodIn_app (goodIn_of _ (by decide +kernel)) ggL_law_X5_row
set_option maxRecDepth 20000 in
theorem ggL_law_X4_stays : GoodIn wsL_law wsX4_stays := goodIn_r _ [848, 15, 33, 509, 510, 511, 14, 512, 39, 849, 850, 851, 2, 852, 32, 22, 395, 268, 269, 470, 291, 292, 293, 41, 42, 40, 294, 295, 296, 21, 297, 298, 299, 208, 205, 209, 48, 47, 300, 301, 302, 303, 304, 305, 306, 307, 308, 309, 310, 311, 312, 313, 314, 315, 316, 317, 318, 319, 204, 206, 472, 473, 474, 475, 476, 477, 478, 479, 480, 481, 909, 910, 911, 912, 913, 914, 915, 916, 917, 918, 939, 940, 941, 942, 943, 944, 945] (by decide +kernel) (by decide +kernel)
set_option maxRecDepth 20000 in
theorem gL_law_X4_stays : GoodIn wsL_law (wsV RL 137 RX4 yX4_stays wsX4_stays) := goodIn_app (goodIn_of _ (by decide +kernel)) ggL_law_X4_stays
set_option maxRecDepth 20000 in
theorem ggL_law_X5_stays : GoodIn wsL_law wsX5_stays := goodIn_r _ [856, 74, 857, 858, 859, 5, 860, 69, 801, 75, 353, 354, 355, 360, 361, 362, 363, 364, 365, 366, 367, 368, 369, 370, 72, 71, 371, 372, 373, 374, 73, 375, 376, 377, 378, 379, 204, 205, 206, 380, 314, 315, 381, 382, 383, 384, 385, 386, 387, 388, 389, 208, 209, 490, 491, 492, 919, 920, 921, 922, 923, 924, 925, 926, 927, 928, 929, 930, 931, 932, 933, 934, 935, 936, 937, 938] (by decide +kernel) (by decide +kernel)
set_option maxRecDepth 20000 in
theorem gL_law_X5_stays : GoodIn wsL_law (wsV RL 140 RX5 yX5_stays wsX5_stays) := goodIn_app (goodIn_of _ (by decide +kernel)) ggL_law_X5_stays
set_option maxRecDepth 20000 in
theorem ggL_law_X4_judge : GoodIn wsL_law wsX4_judge := goodIn_r _ [864, 15, 33, 509, 510, 511, 14, 512, 39, 849, 850, 851, 2, 852, 32, 22, 395, 268, 269, 470, 291, 292, 293, 41, 42, 40, 294, 295, 296, 21, 297, 298, 299, 208, 205, 209, 48, 47, 300, 301, 302, 303, 304, 305, 306, 307, 308, 309, 310, 311, 312, 313, 314, 315, 316, 317, 318, 319, 204, 206, 909, 910, 911, 912, 913, 914, 915, 916, 917, 918, 939, 940, 941, 942, 943, 944, 945] (by decide +kernel) (by decide +kernel)
set_option maxRecDepth 20000 in
theorem gL_law_X4_judge : GoodIn wsL_law (wsV RL 141 RX4 yX4_judge wsX4_judge) := goodIn_app (goodIn_of _ (by decide +kernel)) ggL_law_X4_judge
set_option maxRecDepth 20000 in
theorem ggL_law_X5_judge : GoodIn wsL_law wsX5_judge := goodIn_r _ [868, 801, 857, 858, 859, 5, 860, 69, 74, 75, 353, 354, 355, 360, 361, 362, 363, 364, 365, 366, 367, 368, 369, 370, 72, 71, 371, 372, 373, 374, 73, 375, 376, 377, 378, 379, 204, 205, 206, 380, 314, 315, 381, 382, 383, 384, 385, 386, 387, 388, 389, 208, 209, 919, 920, 921, 922, 923, 924, 925, 926, 927, 928, 929, 930, 931, 932, 933, 934, 935, 936, 937, 938] (by decide +kernel) (by decide +kernel)
set_option maxRecDepth 20000 in
theorem gL_law_X5_judge : GoodIn wsL_law (wsV RL 144 RX5 yX5_judge wsX5_judge) := goodIn_app (goodIn_of _ (by decide +kernel)) ggL_law_X5_judge
set_option maxRecDepth 20000 in
theorem ggL_law_X4_lots : GoodIn wsL_law wsX4_lots := goodIn_r _ [872, 15, 26, 427, 873, 874, 875, 716, 87, 88, 89, 2, 90, 34, 509, 510, 511, 14, 512, 39, 497, 498, 499, 25, 500, 57, 501, 502, 54, 278, 279, 503, 504, 505, 506, 53, 56, 507, 295, 296, 21, 297, 298, 299, 208, 205, 209, 48, 47, 300, 301, 302, 303, 304, 305, 306, 307, 308, 508, 310, 311, 312, 313, 314, 315, 316, 317, 318, 319, 204, 206, 718, 719, 720, 721, 473, 474, 475, 476, 477, 478, 479, 480, 481, 722, 723, 724, 725, 58, 324, 325, 726, 603, 604, 605, 606, 607, 608, 609, 610, 559, 560, 561, 517, 518, 519, 520, 268, 269, 562, 563, 564, 565, 611, 514, 515, 516, 612, 534, 535, 536, 537, 727, 717, 909, 910, 911, 912, 913, 914, 915, 916, 917, 918, 939, 940, 941, 942, 943, 946, 947, 948, 949, 950, 944, 945] (by decide +kernel) (by decide +kernel)
set_option maxRecDepth 20000 in
theorem gL_law_X4_lots : GoodIn wsL_law (wsV RL 145 RX4 yX4_lots wsX4_lots) := goodIn_app (goodIn_of _ (by decide +kernel)) ggL_law_X4_lots
set_option maxRecDepth 20000 in
theorem ggL_law_X5_lots : GoodIn wsL_law wsX5_lots := goodIn_r _ [879, 880, 881, 882, 69, 105, 106, 107, 5, 108, 68, 732, 733, 734, 735, 74, 353, 354, 355, 490, 491, 492, 621, 622, 623, 624, 389, 208, 205, 209, 625, 626, 627, 628, 542, 543, 544, 545, 72, 379, 204, 206, 371, 372, 373, 374, 73, 71, 375, 376, 377, 378, 380, 314, 315, 381, 382, 383, 384, 385, 386, 387, 388, 585, 586, 587, 588, 525, 526, 527, 528, 367, 368, 369, 370, 919, 920, 921, 922, 923, 924, 925, 926, 927, 928, 929, 930, 931, 932, 933, 934, 935, 936, 937, 938] (by decide +kernel) (by decide +kernel)
set_option maxRecDepth 20000 in
theorem gL_law_X5_lots : GoodIn wsL_law (wsV RL 148 RX5 yX5_lots wsX5_lots) := goodIn_app (goodIn_of _ (by decide +kernel)) ggL_law_X5_lots
set_option maxRecDepth 20000 in
theorem ggL_law_X4_image : GoodIn wsL_law wsX4_image := goodIn_r _ [886, 17, 15, 18, 113, 114, 115, 14, 116, 39, 40, 41, 42, 43, 509, 510, 511, 512, 472, 473, 2, 474, 475, 476, 477, 478, 479, 480, 481, 909, 910, 911, 912, 913, 914, 915, 916, 917, 918, 939, 940, 941, 942, 943] (by decide +kernel) (by decide +kernel)
set_option maxRecDepth 20000 in
theorem gL_law_X4_image : GoodIn wsL_law (wsV RL 149 RX4 yX4_image wsX4_image) := goodIn_app (goodIn_of _ (by decide +kernel)) ggL_law_X4_image
set_option maxRecDepth 20000 in
theorem ggL_law_X5_image : GoodIn wsL_law wsX5_image := goodIn_r _ [890, 891, 69, 70, 353, 354, 5, 355, 490, 491, 492, 919, 920, 921, 922, 923, 924, 925, 926, 927, 928, 929, 930, 931, 932, 933, 934, 935, 936, 937, 938] (by decide +kernel) (by decide +kernel)
set_option maxRecDepth 20000 in
theorem gL_law_X5_image : GoodIn wsL_law (wsV RL 152 RX5 yX5_image wsX5_image) := goodIn_app (goodIn_of _ (by decide +kernel)) ggL_law_X5_image
set_option maxRecDepth 20000 in
theorem ggL_law_X4_on : GoodIn wsL_law wsX4_on := goodIn_r _ [895, 18, 15, 17, 87, 88, 89, 2, 90, 34, 113, 114, 115, 14, 116, 39, 40, 41, 42, 43, 509, 510, 511, 512, 472, 473, 474, 475, 476, 477, 478, 479, 480, 481, 909, 910, 911, 912, 913, 914, 915, 916, 917, 918, 939, 940, 941, 942, 943] (by decide +kernel) (by decide +kernel)
set_option maxRecDepth 20000 in
theorem gL_law_X4_on : GoodIn wsL_law (wsV RL 153 RX4 yX4_on wsX4_on) := goodIn_app (goodIn_of _ (by decide +kernel)) ggL_law_X4_on
set_option maxRecDepth 20000 in
theorem ggL_law_X5_on : GoodIn wsL_law wsX5_on := goodIn_r _ [899, 891, 70, 69, 105, 106, 107, 5, 108, 68, 353, 354, 355, 490, 491, 492, 919, 920, 921, 922, 923, 924, 925, 926, 927, 928, 929, 930, 931, 932, 933, 934, 935, 936, 937, 938] (by decide +kernel) (by decide +kernel)
set_option maxRecDepth 20000 in
theorem gL_law_X5_on : GoodIn wsL_law (wsV RL 156 RX5 yX5_on wsX5_on) := goodIn_app (goodIn_of _ (by decide +kernel)) ggL_law_X5_on
set_option maxRecDepth 20000 in
theorem ggL_law_X4_count : GoodIn wsL_law wsX4_count := goodIn_r _ [903, 15, 418, 34, 465, 33, 30, 904, 509, 510, 511, 14, 512, 39, 472, 473, 2, 474, 475, 476, 477, 478, 479, 480, 481, 566, 563, 564, 565, 324, 325, 909, 910, 911, 912, 913, 914, 915, 916, 917, 918, 939, 940, 941, 942, 943, 951, 952] (by decide +kernel) (by decide +kernel)
set_option maxRecDepth 20000 in
theorem gL_law_X4_count : GoodIn wsL_law (wsV RL 157 RX4 yX4_count wsX4_count) := goodIn_app (goodIn_of _ (by decide +kernel)) ggL_law_X4_count
set_option maxRecDepth 20000 in
theorem ggL_law_X5_count : GoodIn wsL_law wsX5_count := goodIn_r _ [908, 69, 801, 104, 68, 490, 491, 5, 492, 589, 590, 591, 919, 920, 921, 922, 923, 924, 925, 926, 927, 928, 929, 930, 931, 932, 933, 934, 935, 936, 937, 938] (by decide +kernel) (by decide +kernel)
set_option maxRecDepth 20000 in
theorem gL_law_X5_count : GoodIn wsL_law (wsV RL 160 RX5 yX5_count wsX5_count) := goodIn_app (goodIn_of _ (by decide +kernel)) ggL_law_X5_count
