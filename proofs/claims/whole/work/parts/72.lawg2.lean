set_option maxRecDepth 20000 in
theorem ggL_law_X4_tryIt : GoodIn wsL_law wsX4_tryIt := goodIn_r _ [464, 15, 22, 465, 395, 268, 2, 269, 466, 467, 468, 469, 439, 440, 441, 442, 418, 87, 88, 89, 90, 34, 470, 291, 292, 14, 293, 41, 39, 42, 40, 294, 295, 296, 21, 297, 298, 299, 208, 205, 209, 48, 47, 300, 301, 302, 303, 304, 305, 306, 307, 308, 309, 310, 311, 312, 313, 314, 315, 316, 317, 318, 319, 204, 206, 471, 321, 322, 323, 43, 324, 325, 472, 473, 474, 475, 476, 477, 478, 479, 480, 481, 909, 910, 911, 912, 913, 914, 915, 916, 917, 918, 939, 940, 941, 942, 943, 944, 945] (by decide +kernel) (by decide +kernel)
set_option maxRecDepth 20000 in
theorem gL_law_X4_tryIt : GoodIn wsL_law (wsV RL 48 RX4 yX4_tryIt wsX4_tryIt) := goodIn_app (goodIn_of _ (by decide +kernel)) ggL_law_X4_tryIt
set_option maxRecDepth 20000 in
theorem ggL_law_X5_tryIt : GoodIn wsL_law wsX5_tryIt := goodIn_r _ [485, 69, 360, 361, 5, 362, 363, 364, 365, 366, 105, 106, 107, 108, 68, 486, 487, 488, 489, 72, 371, 372, 373, 374, 73, 71, 375, 376, 377, 378, 379, 204, 205, 206, 380, 314, 315, 381, 382, 383, 384, 385, 386, 387, 388, 389, 208, 209, 367, 368, 369, 370, 490, 491, 492, 919, 920, 921, 922, 923, 924, 925, 926, 927, 928, 929, 930, 931, 932, 933, 934, 935, 936, 937, 938] (by decide +kernel) (by decide +kernel)
set_option maxRecDepth 20000 in
theorem gL_law_X5_tryIt : GoodIn wsL_law (wsV RL 51 RX5 yX5_tryIt wsX5_tryIt) := goodIn_app (goodIn_of _ (by decide +kernel)) ggL_law_X5_tryIt
set_option maxRecDepth 20000 in
theorem ggL_law_X4_parts : GoodIn wsL_law wsX4_parts := goodIn_r _ [496, 26, 15, 427, 395, 268, 2, 269, 87, 88, 89, 90, 34, 497, 498, 499, 25, 500, 57, 501, 502, 54, 278, 279, 503, 504, 505, 506, 53, 56, 507, 295, 296, 21, 297, 298, 299, 208, 205, 209, 48, 47, 300, 301, 302, 303, 304, 305, 306, 307, 308, 508, 310, 311, 312, 313, 314, 315, 316, 317, 318, 319, 204, 206, 509, 510, 511, 14, 512, 39, 513, 514, 515, 516, 517, 518, 519, 520, 909, 910, 911, 912, 913, 914, 915, 916, 917, 918, 939, 940, 941, 942, 943, 946, 947, 948, 949, 950, 944, 945] (by decide +kernel) (by decide +kernel)
set_option maxRecDepth 20000 in
theorem gL_law_X4_parts : GoodIn wsL_law (wsV RL 52 RX4 yX4_parts wsX4_parts) := goodIn_app (goodIn_of _ (by decide +kernel)) ggL_law_X4_parts
set_option maxRecDepth 20000 in
theorem ggL_law_X5_parts : GoodIn wsL_law wsX5_parts := goodIn_r _ [524, 69, 360, 361, 5, 362, 105, 106, 107, 108, 68, 525, 526, 527, 528, 72, 371, 372, 373, 374, 73, 71, 375, 376, 377, 378, 379, 204, 205, 206, 380, 314, 315, 381, 382, 383, 384, 385, 386, 387, 388, 389, 208, 209, 919, 920, 921, 922, 923, 924, 925, 926, 927, 928, 929, 930, 931, 932, 933, 934, 935, 936, 937, 938] (by decide +kernel) (by decide +kernel)
set_option maxRecDepth 20000 in
theorem gL_law_X5_parts : GoodIn wsL_law (wsV RL 55 RX5 yX5_parts wsX5_parts) := goodIn_app (goodIn_of _ (by decide +kernel)) ggL_law_X5_parts
set_option maxRecDepth 20000 in
theorem ggL_law_X4_worst : GoodIn wsL_law wsX4_worst := goodIn_r _ [532, 26, 15, 427, 395, 268, 2, 269, 87, 88, 89, 90, 34, 497, 498, 499, 25, 500, 57, 501, 502, 54, 278, 279, 503, 504, 505, 506, 53, 56, 507, 295, 296, 21, 297, 298, 299, 208, 205, 209, 48, 47, 300, 301, 302, 303, 304, 305, 306, 307, 308, 508, 310, 311, 312, 313, 314, 315, 316, 317, 318, 319, 204, 206, 509, 510, 511, 14, 512, 39, 533, 534, 535, 536, 537, 517, 518, 519, 520, 473, 474, 475, 476, 477, 478, 479, 480, 481, 909, 910, 911, 912, 913, 914, 915, 916, 917, 918, 939, 940, 941, 942, 943, 946, 947, 948, 949, 950, 944, 945] (by decide +kernel) (by decide +kernel)
set_option maxRecDepth 20000 in
theorem gL_law_X4_worst : GoodIn wsL_law (wsV RL 56 RX4 yX4_worst wsX4_worst) := goodIn_app (goodIn_of _ (by decide +kernel)) ggL_law_X4_worst
set_option maxRecDepth 20000 in
theorem ggL_law_X5_worst : GoodIn wsL_law wsX5_worst := goodIn_r _ [541, 69, 360, 361, 5, 362, 105, 106, 107, 108, 68, 542, 543, 544, 545, 72, 379, 204, 205, 206, 371, 372, 373, 374, 73, 71, 375, 376, 377, 378, 380, 314, 315, 381, 382, 383, 384, 385, 386, 387, 388, 389, 208, 209, 919, 920, 921, 922, 923, 924, 925, 926, 927, 928, 929, 930, 931, 932, 933, 934, 935, 936, 937, 938] (by decide +kernel) (by decide +kernel)
set_option maxRecDepth 20000 in
theorem gL_law_X5_worst : GoodIn wsL_law (wsV RL 59 RX5 yX5_worst wsX5_worst) := goodIn_app (goodIn_of _ (by decide +kernel)) ggL_law_X5_worst
set_option maxRecDepth 20000 in
theorem ggL_law_X4_mean : GoodIn wsL_law wsX4_mean := goodIn_r _ [549, 26, 15, 427, 395, 268, 2, 269, 550, 551, 552, 553, 554, 87, 88, 89, 90, 34, 555, 556, 557, 497, 498, 499, 25, 500, 57, 501, 502, 54, 278, 279, 503, 504, 505, 506, 53, 56, 507, 295, 296, 21, 297, 298, 299, 208, 205, 209, 48, 47, 300, 301, 302, 303, 304, 305, 306, 307, 308, 508, 310, 311, 312, 313, 314, 315, 316, 317, 318, 319, 204, 206, 509, 510, 511, 14, 512, 39, 558, 559, 560, 561, 517, 518, 519, 520, 562, 563, 564, 565, 324, 325, 473, 474, 475, 476, 477, 478, 479, 480, 481, 566, 567, 568, 569, 570, 571, 572, 909, 910, 911, 912, 913, 914, 915, 916, 917, 918, 939, 940, 941, 942, 943, 946, 947, 948, 949, 950, 944, 945] (by decide +kernel) (by decide +kernel)
set_option maxRecDepth 20000 in
theorem gL_law_X4_mean : GoodIn wsL_law (wsV RL 60 RX4 yX4_mean wsX4_mean) := goodIn_app (goodIn_of _ (by decide +kernel)) ggL_law_X4_mean
set_option maxRecDepth 20000 in
theorem ggL_law_X5_mean : GoodIn wsL_law wsX5_mean := goodIn_r _ [576, 69, 360, 361, 5, 362, 577, 578, 579, 580, 581, 105, 106, 107, 108, 68, 582, 583, 584, 585, 586, 587, 588, 73, 72, 371, 372, 373, 374, 71, 375, 376, 377, 378, 379, 204, 205, 206, 380, 314, 315, 381, 382, 383, 384, 385, 386, 387, 388, 389, 208, 209, 589, 590, 591, 592, 593, 594, 919, 920, 921, 922, 923, 924, 925, 926, 927, 928, 929, 930, 931, 932, 933, 934, 935, 936, 937, 938] (by decide +kernel) (by decide +kernel)
set_option maxRecDepth 20000 in
theorem gL_law_X5_mean : GoodIn wsL_law (wsV RL 64 RX5 yX5_mean wsX5_mean) := goodIn_app (goodIn_of _ (by decide +kernel)) ggL_law_X5_mean
set_option maxRecDepth 20000 in
theorem ggL_law_X4_best : GoodIn wsL_law wsX4_best := goodIn_r _ [598, 15, 26, 427, 599, 600, 2, 601, 87, 88, 89, 90, 34, 509, 510, 511, 14, 512, 39, 497, 498, 499, 25, 500, 57, 501, 502, 54, 278, 279, 503, 504, 505, 506, 53, 56, 507, 295, 296, 21, 297, 298, 299, 208, 205, 209, 48, 47, 300, 301, 302, 303, 304, 305, 306, 307, 308, 508, 310, 311, 312, 313, 314, 315, 316, 317, 318, 319, 204, 206, 602, 603, 604, 605, 606, 607, 608, 609, 610, 559, 560, 561, 517, 518, 519, 520, 268, 269, 562, 563, 564, 565, 324, 325, 473, 474, 475, 476, 477, 478, 479, 480, 481, 611, 514, 515, 516, 612, 534, 535, 536, 537, 909, 910, 911, 912, 913, 914, 915, 916, 917, 918, 939, 940, 941, 942, 943, 946, 947, 948, 949, 950, 944, 945] (by decide +kernel) (by decide +kernel)
set_option maxRecDepth 20000 in
theorem gL_law_X4_best : GoodIn wsL_law (wsV RL 65 RX4 yX4_best wsX4_best) := goodIn_app (goodIn_of _ (by decide +kernel)) ggL_law_X4_best
set_option maxRecDepth 20000 in
theorem ggL_law_X5_best : GoodIn wsL_law wsX5_best := goodIn_r _ [616, 69, 105, 106, 107, 5, 108, 68, 617, 618, 619, 620, 589, 590, 591, 621, 622, 623, 624, 389, 208, 205, 209, 625, 626, 627, 628, 542, 543, 544, 545, 72, 379, 204, 206, 371, 372, 373, 374, 73, 71, 375, 376, 377, 378, 380, 314, 315, 381, 382, 383, 384, 385, 386, 387, 388, 585, 586, 587, 588, 525, 526, 527, 528, 919, 920, 921, 922, 923, 924, 925, 926, 927, 928, 929, 930, 931, 932, 933, 934, 935, 936, 937, 938] (by decide +kernel) (by decide +kernel)
set_option maxRecDepth 20000 in
theorem gL_law_X5_best : GoodIn wsL_law (wsV RL 68 RX5 yX5_best wsX5_best) := goodIn_app (goodIn_of _ (by decide +kernel)) ggL_law_X5_best
set_option maxRecDepth 20000 in
theorem ggL_law_X4_bestOf : GoodIn wsL_law wsX4_bestOf := goodIn_r _ [632, 15, 26, 427, 599, 600, 2, 601, 555, 556, 557, 550, 551, 552, 553, 554, 87, 88, 89, 90, 34, 509, 510, 511, 14, 512, 39, 497, 498, 499, 25, 500, 57, 501, 502, 54, 278, 279, 503, 504, 505, 506, 53, 56, 507, 295, 296, 21, 297, 298, 299, 208, 205, 209, 48, 47, 300, 301, 302, 303, 304, 305, 306, 307, 308, 508, 310, 311, 312, 313, 314, 315, 316, 317, 318, 319, 204, 206, 602, 603, 604, 605, 606, 607, 608, 609, 610, 559, 560, 561, 517, 518, 519, 520, 268, 269, 562, 563, 564, 565, 324, 325, 473, 474, 475, 476, 477, 478, 479, 480, 481, 611, 514, 515, 516, 612, 534, 535, 536, 537, 558, 566, 567, 568, 569, 570, 571, 572, 513, 533, 909, 910, 911, 912, 913, 914, 915, 916, 917, 918, 939, 940, 941, 942, 943, 946, 947, 948, 949, 950, 944, 945] (by decide +kernel) (by decide +kernel)
set_option maxRecDepth 20000 in
theorem gL_law_X4_bestOf : GoodIn wsL_law (wsV RL 69 RX4 yX4_bestOf wsX4_bestOf) := goodIn_app (goodIn_of _ (by decide +kernel)) ggL_law_X4_bestOf
set_option maxRecDepth 20000 in
theorem ggL_law_X5_bestOf : GoodIn wsL_law wsX5_bestOf := goodIn_r _ [636, 69, 380, 314, 205, 315, 582, 583, 5, 584, 577, 578, 579, 580, 581, 105, 106, 107, 108, 68, 617, 618, 619, 620, 589, 590, 591, 621, 622, 623, 624, 389, 208, 209, 625, 626, 627, 628, 542, 543, 544, 545, 72, 379, 204, 206, 371, 372, 373, 374, 73, 71, 375, 376, 377, 378, 381, 382, 383, 384, 385, 386, 387, 388, 585, 586, 587, 588, 525, 526, 527, 528, 592, 593, 594, 919, 920, 921, 922, 923, 924, 925, 926, 927, 928, 929, 930, 931, 932, 933, 934, 935, 936, 937, 938] (by decide +kernel) (by decide +kernel)
set_option maxRecDepth 20000 in
theorem gL_law_X5_bestOf : GoodIn wsL_law (wsV RL 72 RX5 yX5_bestOf wsX5_bestOf) := goodIn_app (goodIn_of _ (by decide +kernel)) ggL_law_X5_bestOf
set_option maxRecDepth 20000 in
theorem ggL_law_X4_bestKind : GoodIn wsL_law wsX4_bestKind := goodIn_r _ [640, 15, 26, 509, 510, 511, 14, 512, 39, 87, 88, 89, 2, 90, 34, 497, 498, 499, 25, 500, 57, 501, 502, 54, 278, 279, 503, 504, 505, 506, 53, 56, 507, 295, 296, 21, 297, 298, 299, 208, 205, 209, 48, 47, 300, 301, 302, 303, 304, 305, 306, 307, 308, 508, 310, 311, 312, 313, 314, 315, 316, 317, 318, 319, 204, 206, 602, 603, 604, 605, 606, 607, 608, 609, 610, 559, 560, 561, 517, 518, 519, 520, 268, 269, 562, 563, 564, 565, 324, 325, 473, 474, 475, 476, 477, 478, 479, 480, 481, 611, 514, 515, 516, 612, 534, 535, 536, 537, 533, 909, 910, 911, 912, 913, 914, 915, 916, 917, 918, 939, 940, 941, 942, 943, 946, 947, 948, 949, 950, 944, 945] (by decide +kernel) (by decide +kernel)
set_option maxRecDepth 20000 in
theorem gL_law_X4_bestKind : GoodIn wsL_law (wsV RL 73 RX4 yX4_bestKind wsX4_bestKind) := goodIn_app (goodIn_of _ (by decide +kernel)) ggL_law_X4_bestKind
set_option maxRecDepth 20000 in
theorem ggL_law_X5_bestKind : GoodIn wsL_law wsX5_bestKind := goodIn_r _ [644, 69, 617, 618, 619, 5, 620, 589, 590, 591, 105, 106, 107, 108, 68, 621, 622, 623, 624, 389, 208, 205, 209, 625, 626, 627, 628, 542, 543, 544, 545, 72, 379, 204, 206, 371, 372, 373, 374, 73, 71, 375, 376, 377, 378, 380, 314, 315, 381, 382, 383, 384, 385, 386, 387, 388, 585, 586, 587, 588, 525, 526, 527, 528, 919, 920, 921, 922, 923, 924, 925, 926, 927, 928, 929, 930, 931, 932, 933, 934, 935, 936, 937, 938] (by decide +kernel) (by decide +kernel)
set_option maxRecDepth 20000 in
theorem gL_law_X5_bestKind : GoodIn wsL_law (wsV RL 76 RX5 yX5_bestKind wsX5_bestKind) := goodIn_app (goodIn_of _ (by decide +kernel)) ggL_law_X5_bestKind
set_option maxRecDepth 20000 in
theorem ggL_law_X4_give : GoodIn wsL_law wsX4_give := goodIn_r _ [648, 15, 509, 510, 511, 14, 512, 39, 87, 88, 89, 2, 90, 34, 649, 650, 651, 652, 653, 654, 655, 656, 657, 314, 205, 315, 40, 324, 325, 909, 910, 911, 912, 913, 914, 915, 916, 917, 918, 939, 940, 941, 942, 943] (by decide +kernel) (by decide +kernel)
set_option maxRecDepth 20000 in
theorem gL_law_X4_give : GoodIn wsL_law (wsV RL 77 RX4 yX4_give wsX4_give) := goodIn_app (goodIn_of _ (by decide +kernel)) ggL_law_X4_give
set_option maxRecDepth 20000 in
theorem ggL_law_X5_give : GoodIn wsL_law wsX5_give := goodIn_r _ [661, 69, 617, 618, 619, 5, 620, 589, 590, 591, 105, 106, 107, 108, 68, 662, 663, 664, 665, 666, 667, 668, 669, 380, 314, 205, 315, 919, 920, 921, 922, 923, 924, 925, 926, 927, 928, 929, 930, 931, 932, 933, 934, 935, 936, 937, 938] (by decide +kernel) (by decide +kernel)
set_option maxRecDepth 20000 in
theorem gL_law_X5_give : GoodIn wsL_law (wsV RL 80 RX5 yX5_give wsX5_give) := goodIn_app (goodIn_of _ (by decide +kernel)) ggL_law_X5_give
set_option maxRecDepth 20000 in
theorem ggL_law_X4_faults : GoodIn wsL_law wsX4_faults := goodIn_r _ [673, 15, 555, 556, 2, 557, 550, 551, 552, 553, 554, 87, 88, 89, 90, 34, 509, 510, 511, 14, 512, 39, 674, 675, 676, 677, 678, 650, 651, 652, 653, 654, 655, 656, 657, 314, 205, 315, 40, 324, 325, 566, 563, 564, 565, 567, 568, 569, 570, 571, 572, 909, 910, 911, 912, 913, 914, 915, 916, 917, 918, 939, 940, 941, 942, 943] (by decide +kernel) (by decide +kernel)
set_option maxRecDepth 20000 in
theorem gL_law_X4_faults : GoodIn wsL_law (wsV RL 81 RX4 yX4_faults wsX4_faults) := goodIn_app (goodIn_of _ (by decide +kernel)) ggL_law_X4_faults
set_option maxRecDepth 20000 in
theorem ggL_law_X5_faults : GoodIn wsL_law wsX5_faults := goodIn_r _ [682, 69, 582, 583, 5, 584, 577, 578, 579, 580, 581, 105, 106, 107, 108, 68, 617, 618, 619, 620, 589, 590, 591, 662, 663, 664, 665, 666, 667, 668, 669, 380, 314, 205, 315, 592, 593, 594, 919, 920, 921, 922, 923, 924, 925, 926, 927, 928, 929, 930, 931, 932, 933, 934, 935, 936, 937, 938] (by decide +kernel) (by decide +kernel)
set_option maxRecDepth 20000 in
theorem gL_law_X5_faults : GoodIn wsL_law (wsV RL 85 RX5 yX5_faults wsX5_faults) := goodIn_app (goodIn_of _ (by decide +kernel)) ggL_law_X5_faults
