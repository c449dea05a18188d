set_option maxRecDepth 20000 in
theorem ggL_law_X4_goOn : GoodIn wsL_law wsX4_goOn := goodIn_r _ [686, 15, 418, 509, 510, 511, 14, 512, 39, 87, 88, 89, 2, 90, 34, 566, 563, 564, 565, 324, 325, 687, 688, 689, 690, 26, 427, 497, 498, 499, 25, 500, 57, 501, 502, 54, 278, 279, 503, 504, 505, 506, 53, 56, 507, 295, 296, 21, 297, 298, 299, 208, 205, 209, 48, 47, 300, 301, 302, 303, 304, 305, 306, 307, 308, 508, 310, 311, 312, 313, 314, 315, 316, 317, 318, 319, 204, 206, 602, 603, 604, 605, 606, 607, 608, 609, 610, 559, 560, 561, 517, 518, 519, 520, 268, 269, 562, 473, 474, 475, 476, 477, 478, 479, 480, 481, 611, 514, 515, 516, 612, 534, 535, 536, 537, 691, 692, 693, 694, 695, 675, 676, 677, 678, 650, 651, 652, 653, 654, 655, 656, 657, 40, 674, 909, 910, 911, 912, 913, 914, 915, 916, 917, 918, 939, 940, 941, 942, 943, 946, 947, 948, 949, 950, 944, 945] (by decide +kernel) (by decide +kernel)
set_option maxRecDepth 20000 in
theorem gL_law_X4_goOn : GoodIn wsL_law (wsV RL 86 RX4 yX4_goOn wsX4_goOn) := goodIn_app (goodIn_of _ (by decide +kernel)) ggL_law_X4_goOn
set_option maxRecDepth 20000 in
theorem ggL_law_X5_goOn : GoodIn wsL_law wsX5_goOn := goodIn_r _ [699, 69, 617, 618, 619, 5, 620, 589, 590, 591, 105, 106, 107, 108, 68, 700, 701, 702, 703, 74, 621, 622, 623, 624, 389, 208, 205, 209, 625, 626, 627, 628, 542, 543, 544, 545, 72, 379, 204, 206, 371, 372, 373, 374, 73, 71, 375, 376, 377, 378, 380, 314, 315, 381, 382, 383, 384, 385, 386, 387, 388, 585, 586, 587, 588, 525, 526, 527, 528, 353, 354, 355, 367, 368, 369, 370, 662, 663, 664, 665, 666, 667, 668, 669, 919, 920, 921, 922, 923, 924, 925, 926, 927, 928, 929, 930, 931, 932, 933, 934, 935, 936, 937, 938] (by decide +kernel) (by decide +kernel)
set_option maxRecDepth 20000 in
theorem gL_law_X5_goOn : GoodIn wsL_law (wsV RL 89 RX5 yX5_goOn wsX5_goOn) := goodIn_app (goodIn_of _ (by decide +kernel)) ggL_law_X5_goOn
set_option maxRecDepth 20000 in
theorem ggL_law_X4_goOnCosts : GoodIn wsL_law wsX4_goOnCosts := goodIn_r _ [707, 15, 418, 555, 556, 2, 557, 550, 551, 552, 553, 554, 87, 88, 89, 90, 34, 509, 510, 511, 14, 512, 39, 566, 563, 564, 565, 324, 325, 687, 688, 689, 690, 26, 427, 497, 498, 499, 25, 500, 57, 501, 502, 54, 278, 279, 503, 504, 505, 506, 53, 56, 507, 295, 296, 21, 297, 298, 299, 208, 205, 209, 48, 47, 300, 301, 302, 303, 304, 305, 306, 307, 308, 508, 310, 311, 312, 313, 314, 315, 316, 317, 318, 319, 204, 206, 602, 603, 604, 605, 606, 607, 608, 609, 610, 559, 560, 561, 517, 518, 519, 520, 268, 269, 562, 473, 474, 475, 476, 477, 478, 479, 480, 481, 611, 514, 515, 516, 612, 534, 535, 536, 537, 691, 692, 693, 694, 695, 675, 676, 677, 678, 650, 651, 652, 653, 654, 655, 656, 657, 40, 567, 568, 569, 570, 571, 572, 909, 910, 911, 912, 913, 914, 915, 916, 917, 918, 939, 940, 941, 942, 943, 946, 947, 948, 949, 950, 944, 945] (by decide +kernel) (by decide +kernel)
set_option maxRecDepth 20000 in
theorem gL_law_X4_goOnCosts : GoodIn wsL_law (wsV RL 90 RX4 yX4_goOnCosts wsX4_goOnCosts) := goodIn_app (goodIn_of _ (by decide +kernel)) ggL_law_X4_goOnCosts
set_option maxRecDepth 20000 in
theorem ggL_law_X5_goOnCosts : GoodIn wsL_law wsX5_goOnCosts := goodIn_r _ [711, 69, 582, 583, 5, 584, 577, 578, 579, 580, 581, 105, 106, 107, 108, 68, 617, 618, 619, 620, 589, 590, 591, 700, 701, 702, 703, 74, 621, 622, 623, 624, 389, 208, 205, 209, 625, 626, 627, 628, 542, 543, 544, 545, 72, 379, 204, 206, 371, 372, 373, 374, 73, 71, 375, 376, 377, 378, 380, 314, 315, 381, 382, 383, 384, 385, 386, 387, 388, 585, 586, 587, 588, 525, 526, 527, 528, 353, 354, 355, 367, 368, 369, 370, 662, 663, 664, 665, 666, 667, 668, 669, 592, 593, 594, 919, 920, 921, 922, 923, 924, 925, 926, 927, 928, 929, 930, 931, 932, 933, 934, 935, 936, 937, 938] (by decide +kernel) (by decide +kernel)
set_option maxRecDepth 20000 in
theorem gL_law_X5_goOnCosts : GoodIn wsL_law (wsV RL 93 RX5 yX5_goOnCosts wsX5_goOnCosts) := goodIn_app (goodIn_of _ (by decide +kernel)) ggL_law_X5_goOnCosts
set_option maxRecDepth 20000 in
theorem ggL_law_X4_enough : GoodIn wsL_law wsX4_enough := goodIn_r _ [715, 15, 26, 427, 716, 395, 268, 2, 269, 87, 88, 89, 90, 34, 509, 510, 511, 14, 512, 39, 717, 324, 325, 497, 498, 499, 25, 500, 57, 501, 502, 54, 278, 279, 503, 504, 505, 506, 53, 56, 507, 295, 296, 21, 297, 298, 299, 208, 205, 209, 48, 47, 300, 301, 302, 303, 304, 305, 306, 307, 308, 508, 310, 311, 312, 313, 314, 315, 316, 317, 318, 319, 204, 206, 718, 719, 720, 721, 473, 474, 475, 476, 477, 478, 479, 480, 481, 722, 723, 724, 725, 58, 726, 603, 604, 605, 606, 607, 608, 609, 610, 559, 560, 561, 517, 518, 519, 520, 562, 563, 564, 565, 611, 514, 515, 516, 612, 534, 535, 536, 537, 727, 909, 910, 911, 912, 913, 914, 915, 916, 917, 918, 939, 940, 941, 942, 943, 946, 947, 948, 949, 950, 944, 945] (by decide +kernel) (by decide +kernel)
set_option maxRecDepth 20000 in
theorem gL_law_X4_enough : GoodIn wsL_law (wsV RL 94 RX4 yX4_enough wsX4_enough) := goodIn_app (goodIn_of _ (by decide +kernel)) ggL_law_X4_enough
set_option maxRecDepth 20000 in
theorem ggL_law_X5_enough : GoodIn wsL_law wsX5_enough := goodIn_r _ [731, 69, 360, 361, 5, 362, 105, 106, 107, 108, 68, 732, 733, 734, 735, 74, 353, 354, 355, 490, 491, 492, 621, 622, 623, 624, 389, 208, 205, 209, 625, 626, 627, 628, 542, 543, 544, 545, 72, 379, 204, 206, 371, 372, 373, 374, 73, 71, 375, 376, 377, 378, 380, 314, 315, 381, 382, 383, 384, 385, 386, 387, 388, 585, 586, 587, 588, 525, 526, 527, 528, 367, 368, 369, 370, 919, 920, 921, 922, 923, 924, 925, 926, 927, 928, 929, 930, 931, 932, 933, 934, 935, 936, 937, 938] (by decide +kernel) (by decide +kernel)
set_option maxRecDepth 20000 in
theorem gL_law_X5_enough : GoodIn wsL_law (wsV RL 97 RX5 yX5_enough wsX5_enough) := goodIn_app (goodIn_of _ (by decide +kernel)) ggL_law_X5_enough
set_option maxRecDepth 20000 in
theorem ggL_law_X4_most : GoodIn wsL_law wsX4_most := goodIn_r _ [739, 15, 26, 427, 716, 740, 204, 205, 206, 509, 510, 511, 14, 512, 39, 87, 88, 89, 2, 90, 34, 497, 498, 499, 25, 500, 57, 501, 502, 54, 278, 279, 503, 504, 505, 506, 53, 56, 507, 295, 296, 21, 297, 298, 299, 208, 209, 48, 47, 300, 301, 302, 303, 304, 305, 306, 307, 308, 508, 310, 311, 312, 313, 314, 315, 316, 317, 318, 319, 718, 719, 720, 721, 473, 474, 475, 476, 477, 478, 479, 480, 481, 722, 723, 724, 725, 58, 324, 325, 726, 603, 604, 605, 606, 607, 608, 609, 610, 559, 560, 561, 517, 518, 519, 520, 268, 269, 562, 563, 564, 565, 611, 514, 515, 516, 612, 534, 535, 536, 537, 727, 717, 909, 910, 911, 912, 913, 914, 915, 916, 917, 918, 939, 940, 941, 942, 943, 946, 947, 948, 949, 950, 944, 945] (by decide +kernel) (by decide +kernel)
set_option maxRecDepth 20000 in
theorem gL_law_X4_most : GoodIn wsL_law (wsV RL 98 RX4 yX4_most wsX4_most) := goodIn_app (goodIn_of _ (by decide +kernel)) ggL_law_X4_most
set_option maxRecDepth 20000 in
theorem ggL_law_X5_most : GoodIn wsL_law wsX5_most := goodIn_r _ [744, 69, 379, 204, 205, 206, 617, 618, 619, 5, 620, 589, 590, 591, 105, 106, 107, 108, 68, 732, 733, 734, 735, 74, 353, 354, 355, 490, 491, 492, 621, 622, 623, 624, 389, 208, 209, 625, 626, 627, 628, 542, 543, 544, 545, 72, 371, 372, 373, 374, 73, 71, 375, 376, 377, 378, 380, 314, 315, 381, 382, 383, 384, 385, 386, 387, 388, 585, 586, 587, 588, 525, 526, 527, 528, 367, 368, 369, 370, 919, 920, 921, 922, 923, 924, 925, 926, 927, 928, 929, 930, 931, 932, 933, 934, 935, 936, 937, 938] (by decide +kernel) (by decide +kernel)
set_option maxRecDepth 20000 in
theorem gL_law_X5_most : GoodIn wsL_law (wsV RL 101 RX5 yX5_most wsX5_most) := goodIn_app (goodIn_of _ (by decide +kernel)) ggL_law_X5_most
set_option maxRecDepth 20000 in
theorem ggL_law_X4_fewest : GoodIn wsL_law wsX4_fewest := goodIn_r _ [748, 15, 418, 428, 509, 510, 511, 14, 512, 39, 472, 473, 2, 474, 475, 476, 477, 478, 479, 480, 481, 87, 88, 89, 90, 34, 909, 910, 911, 912, 913, 914, 915, 916, 917, 918, 939, 940, 941, 942, 943] (by decide +kernel) (by decide +kernel)
set_option maxRecDepth 20000 in
theorem gL_law_X4_fewest : GoodIn wsL_law (wsV RL 102 RX4 yX4_fewest wsX4_fewest) := goodIn_app (goodIn_of _ (by decide +kernel)) ggL_law_X4_fewest
set_option maxRecDepth 20000 in
theorem ggL_law_X5_fewest : GoodIn wsL_law wsX5_fewest := goodIn_r _ [752, 69, 617, 618, 619, 5, 620, 589, 590, 591, 105, 106, 107, 108, 68, 490, 491, 492, 919, 920, 921, 922, 923, 924, 925, 926, 927, 928, 929, 930, 931, 932, 933, 934, 935, 936, 937, 938] (by decide +kernel) (by decide +kernel)
set_option maxRecDepth 20000 in
theorem gL_law_X5_fewest : GoodIn wsL_law (wsV RL 105 RX5 yX5_fewest wsX5_fewest) := goodIn_app (goodIn_of _ (by decide +kernel)) ggL_law_X5_fewest
set_option maxRecDepth 20000 in
theorem ggL_law_X4_rule : GoodIn wsL_law wsX4_rule := goodIn_r _ [756, 15, 22, 395, 268, 2, 269, 466, 467, 468, 469, 439, 440, 441, 442, 418, 87, 88, 89, 90, 34, 470, 291, 292, 14, 293, 41, 39, 42, 40, 294, 295, 296, 21, 297, 298, 299, 208, 205, 209, 48, 47, 300, 301, 302, 303, 304, 305, 306, 307, 308, 309, 310, 311, 312, 313, 314, 315, 316, 317, 318, 319, 204, 206, 472, 473, 474, 475, 476, 477, 478, 479, 480, 481, 757, 758, 759, 717, 324, 325, 760, 761, 762, 909, 910, 911, 912, 913, 914, 915, 916, 917, 918, 939, 940, 941, 942, 943, 944, 945] (by decide +kernel) (by decide +kernel)
set_option maxRecDepth 20000 in
theorem gL_law_X4_rule : GoodIn wsL_law (wsV RL 106 RX4 yX4_rule wsX4_rule) := goodIn_app (goodIn_of _ (by decide +kernel)) ggL_law_X4_rule
set_option maxRecDepth 20000 in
theorem ggL_law_X5_rule : GoodIn wsL_law wsX5_rule := goodIn_r _ [766, 69, 74, 360, 361, 5, 362, 363, 364, 365, 366, 105, 106, 107, 108, 68, 353, 354, 355, 367, 368, 369, 370, 72, 71, 371, 372, 373, 374, 73, 375, 376, 377, 378, 379, 204, 205, 206, 380, 314, 315, 381, 382, 383, 384, 385, 386, 387, 388, 389, 208, 209, 490, 491, 492, 767, 768, 769, 770, 771, 772, 919, 920, 921, 922, 923, 924, 925, 926, 927, 928, 929, 930, 931, 932, 933, 934, 935, 936, 937, 938] (by decide +kernel) (by decide +kernel)
set_option maxRecDepth 20000 in
theorem gL_law_X5_rule : GoodIn wsL_law (wsV RL 110 RX5 yX5_rule wsX5_rule) := goodIn_app (goodIn_of _ (by decide +kernel)) ggL_law_X5_rule
set_option maxRecDepth 20000 in
theorem ggL_law_X4_twoEyes : GoodIn wsL_law wsX4_twoEyes := goodIn_r _ [776, 15, 395, 268, 2, 269, 87, 88, 89, 90, 34, 430, 284, 285, 509, 510, 511, 14, 512, 39, 777, 778, 779, 780, 418, 22, 427, 443, 295, 296, 21, 297, 298, 299, 208, 205, 209, 48, 47, 300, 301, 302, 303, 304, 305, 306, 307, 308, 456, 310, 311, 312, 313, 314, 315, 316, 317, 318, 319, 204, 206, 472, 473, 474, 475, 476, 477, 478, 479, 480, 481, 757, 758, 759, 717, 324, 325, 909, 910, 911, 912, 913, 914, 915, 916, 917, 918, 939, 940, 941, 942, 943, 944, 945] (by decide +kernel) (by decide +kernel)
set_option maxRecDepth 20000 in
theorem gL_law_X4_twoEyes : GoodIn wsL_law (wsV RL 111 RX4 yX4_twoEyes wsX4_twoEyes) := goodIn_app (goodIn_of _ (by decide +kernel)) ggL_law_X4_twoEyes
set_option maxRecDepth 20000 in
theorem ggL_law_X5_twoEyes : GoodIn wsL_law wsX5_twoEyes := goodIn_r _ [784, 69, 360, 361, 5, 362, 105, 106, 107, 108, 68, 375, 376, 377, 378, 379, 204, 205, 206, 380, 314, 315, 381, 382, 383, 384, 385, 386, 387, 388, 389, 208, 209, 919, 920, 921, 922, 923, 924, 925, 926, 927, 928, 929, 930, 931, 932, 933, 934, 935, 936, 937, 938] (by decide +kernel) (by decide +kernel)
set_option maxRecDepth 20000 in
theorem gL_law_X5_twoEyes : GoodIn wsL_law (wsV RL 115 RX5 yX5_twoEyes wsX5_twoEyes) := goodIn_app (goodIn_of _ (by decide +kernel)) ggL_law_X5_twoEyes
set_option maxRecDepth 20000 in
theorem ggL_law_X4_whose : GoodIn wsL_law wsX4_whose := goodIn_r _ [788, 417, 15, 428, 418, 87, 88, 89, 2, 90, 34, 789, 790, 791, 792, 33, 32, 395, 268, 269, 793, 794, 795, 796, 22, 427, 443, 295, 296, 21, 297, 298, 299, 208, 205, 209, 48, 47, 300, 301, 302, 303, 304, 305, 306, 307, 308, 456, 310, 311, 312, 313, 314, 315, 316, 317, 318, 319, 204, 206, 909, 910, 911, 912, 913, 914, 915, 916, 917, 918, 939, 940, 941, 942, 943, 944, 945] (by decide +kernel) (by decide +kernel)
set_option maxRecDepth 20000 in
theorem gL_law_X4_whose : GoodIn wsL_law (wsV RL 116 RX4 yX4_whose wsX4_whose) := goodIn_app (goodIn_of _ (by decide +kernel)) ggL_law_X4_whose
set_option maxRecDepth 20000 in
theorem ggL_law_X5_whose : GoodIn wsL_law wsX5_whose := goodIn_r _ [800, 801, 75, 69, 105, 106, 107, 5, 108, 68, 360, 361, 362, 802, 803, 804, 805, 375, 376, 377, 378, 379, 204, 205, 206, 380, 314, 315, 381, 382, 383, 384, 385, 386, 387, 388, 389, 208, 209, 919, 920, 921, 922, 923, 924, 925, 926, 927, 928, 929, 930, 931, 932, 933, 934, 935, 936, 937, 938] (by decide +kernel) (by decide +kernel)
set_option maxRecDepth 20000 in
theorem gL_law_X5_whose : GoodIn wsL_law (wsV RL 119 RX5 yX5_whose wsX5_whose) := goodIn_app (goodIn_of _ (by decide +kernel)) ggL_law_X5_whose
set_option maxRecDepth 20000 in
theorem ggL_law_X4_limit : GoodIn wsL_law wsX4_limit := goodIn_r _ [809, 15, 509, 510, 511, 14, 512, 39, 757, 758, 2, 759, 717, 324, 325, 760, 761, 762, 810, 811, 812, 813, 814, 815, 563, 564, 565, 87, 88, 89, 90, 34, 909, 910, 911, 912, 913, 914, 915, 916, 917, 918, 939, 940, 941, 942, 943] (by decide +kernel) (by decide +kernel)
set_option maxRecDepth 20000 in
theorem gL_law_X4_limit : GoodIn wsL_law (wsV RL 120 RX4 yX4_limit wsX4_limit) := goodIn_app (goodIn_of _ (by decide +kernel)) ggL_law_X4_limit
set_option maxRecDepth 20000 in
theorem ggL_law_X5_limit : GoodIn wsL_law wsX5_limit := goodIn_r _ [819, 69, 105, 106, 107, 5, 108, 68, 617, 618, 619, 620, 589, 590, 591, 767, 768, 769, 770, 771, 772, 919, 920, 921, 922, 923, 924, 925, 926, 927, 928, 929, 930, 931, 932, 933, 934, 935, 936, 937, 938] (by decide +kernel) (by decide +kernel)
set_option maxRecDepth 20000 in
theorem gL_law_X5_limit : GoodIn wsL_law (wsV RL 123 RX5 yX5_limit wsX5_limit) := goodIn_app (goodIn_of _ (by decide +kernel)) ggL_law_X5_limit
