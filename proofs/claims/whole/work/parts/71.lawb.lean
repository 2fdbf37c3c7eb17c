set_option maxRecDepth 20000 in
theorem ggL_law_X3_init : GoodIn wsL_law wsX3_init := goodIn_r _ [8, 9, 10, 11, 12, 13, 14, 15, 16, 17, 18, 19, 20, 21, 22, 23, 24, 25, 26, 27, 28, 29, 30, 31, 32, 33, 34, 35, 36, 37, 38, 39, 40, 41, 42, 43, 659, 660, 661, 662, 663, 664, 665, 666, 667, 668, 669, 670, 671, 672, 673, 635, 636, 637, 638, 639, 640, 641, 642, 643, 674, 675, 676, 677, 678, 679, 680, 681, 682, 683, 684, 685, 686, 687] (by decide +kernel) (by decide +kernel)
set_option maxRecDepth 20000 in
theorem gL_law_X3_init : GoodIn wsL_law (wsX3_init) := ggL_law_X3_init
set_option maxRecDepth 20000 in
theorem ggL_law_X4_init : GoodIn wsL_law wsX4_init := goodIn_r _ [46, 47, 10, 11, 48, 49, 50, 51, 52, 53, 644, 645, 646, 647, 648, 649, 650, 651, 652, 653, 654, 655, 656, 657, 658] (by decide +kernel) (by decide +kernel)
set_option maxRecDepth 20000 in
theorem gL_law_X4_init : GoodIn wsL_law (wsX4_init) := ggL_law_X4_init
set_option maxRecDepth 20000 in
theorem ggL_law_X3_smithy : GoodIn wsL_law wsX3_smithy := goodIn_r _ [57, 16, 15, 58, 59, 60, 14, 61, 62, 28, 29, 30, 31, 63, 64, 32, 65, 33, 66, 67, 68, 69, 70, 71, 72, 73, 27, 74, 75, 76, 35, 77, 78, 79, 80, 81, 82, 83, 84, 85, 86, 87, 88, 89, 90, 91, 92, 93, 94, 95, 96, 97, 98, 2, 99, 100, 101, 102, 103, 104, 17, 105, 106, 107, 108, 635, 636, 637, 638, 639, 640, 641, 642, 643, 659, 660, 661, 662, 663, 664, 665, 666, 667, 668, 669, 670, 671, 672, 673, 680, 681, 682, 683, 684, 685, 686, 687] (by decide +kernel) (by decide +kernel)
set_option maxRecDepth 20000 in
theorem gL_law_X3_smithy : GoodIn wsL_law (wsV RL 13 RX3 yX3_smithy wsX3_smithy) := goodIn_app (goodIn_of _ (by decide +kernel)) ggL_law_X3_smithy
set_option maxRecDepth 20000 in
theorem ggL_law_X4_smithy : GoodIn wsL_law wsX4_smithy := goodIn_r _ [112, 113, 49, 114, 115, 116, 5, 117, 118, 119, 120, 121, 122, 123, 50, 124, 125, 126, 127, 644, 645, 646, 647, 648, 649, 650, 651, 652, 653, 654, 655, 656, 657, 658] (by decide +kernel) (by decide +kernel)
set_option maxRecDepth 20000 in
theorem gL_law_X4_smithy : GoodIn wsL_law (wsV RL 17 RX4 yX4_smithy wsX4_smithy) := goodIn_app (goodIn_of _ (by decide +kernel)) ggL_law_X4_smithy
set_option maxRecDepth 20000 in
theorem ggL_law_X3_walk : GoodIn wsL_law wsX3_walk := goodIn_r _ [131, 16, 15, 58, 59, 60, 14, 61, 62, 28, 29, 30, 31, 63, 64, 32, 65, 33, 66, 67, 68, 69, 70, 71, 72, 73, 27, 74, 75, 76, 35, 77, 78, 79, 80, 81, 82, 83, 84, 85, 132, 133, 134, 135, 90, 136, 137, 138, 139, 140, 141, 2, 142, 143, 144, 145, 146, 96, 97, 98, 99, 100, 101, 102, 103, 104, 17, 105, 106, 107, 108, 635, 636, 637, 638, 639, 640, 641, 642, 643, 659, 660, 661, 662, 663, 664, 665, 666, 667, 668, 669, 670, 671, 672, 673, 680, 681, 682, 683, 684, 685, 686, 687] (by decide +kernel) (by decide +kernel)
set_option maxRecDepth 20000 in
theorem gL_law_X3_walk : GoodIn wsL_law (wsV RL 18 RX3 yX3_walk wsX3_walk) := goodIn_app (goodIn_of _ (by decide +kernel)) ggL_law_X3_walk
set_option maxRecDepth 20000 in
theorem ggL_law_X4_walk : GoodIn wsL_law wsX4_walk := goodIn_r _ [150, 113, 49, 151, 115, 116, 5, 117, 152, 153, 154, 155, 156, 157, 158, 159, 160, 118, 119, 120, 121, 122, 123, 50, 644, 645, 646, 647, 648, 649, 650, 651, 652, 653, 654, 655, 656, 657, 658] (by decide +kernel) (by decide +kernel)
set_option maxRecDepth 20000 in
theorem gL_law_X4_walk : GoodIn wsL_law (wsV RL 22 RX4 yX4_walk wsX4_walk) := goodIn_app (goodIn_of _ (by decide +kernel)) ggL_law_X4_walk
set_option maxRecDepth 20000 in
theorem ggL_law_X3_buy : GoodIn wsL_law wsX3_buy := goodIn_r _ [164, 16, 15, 58, 59, 60, 14, 61, 62, 28, 29, 30, 31, 63, 64, 32, 65, 33, 66, 67, 68, 69, 70, 71, 72, 73, 27, 74, 75, 76, 35, 77, 78, 79, 80, 81, 82, 83, 84, 85, 165, 166, 167, 168, 90, 136, 91, 96, 97, 98, 2, 99, 100, 101, 102, 103, 104, 17, 105, 106, 107, 108, 635, 636, 637, 638, 639, 640, 641, 642, 643, 659, 660, 661, 662, 663, 664, 665, 666, 667, 668, 669, 670, 671, 672, 673, 680, 681, 682, 683, 684, 685, 686, 687] (by decide +kernel) (by decide +kernel)
set_option maxRecDepth 20000 in
theorem gL_law_X3_buy : GoodIn wsL_law (wsV RL 23 RX3 yX3_buy wsX3_buy) := goodIn_app (goodIn_of _ (by decide +kernel)) ggL_law_X3_buy
set_option maxRecDepth 20000 in
theorem ggL_law_X4_buy : GoodIn wsL_law wsX4_buy := goodIn_r _ [172, 113, 49, 151, 114, 115, 116, 5, 117, 118, 119, 120, 121, 122, 123, 50, 644, 645, 646, 647, 648, 649, 650, 651, 652, 653, 654, 655, 656, 657, 658] (by decide +kernel) (by decide +kernel)
set_option maxRecDepth 20000 in
theorem gL_law_X4_buy : GoodIn wsL_law (wsV RL 26 RX4 yX4_buy wsX4_buy) := goodIn_app (goodIn_of _ (by decide +kernel)) ggL_law_X4_buy
set_option maxRecDepth 20000 in
theorem ggL_law_X3_patch : GoodIn wsL_law wsX3_patch := goodIn_r _ [176, 16, 15, 58, 59, 60, 14, 61, 62, 28, 29, 30, 31, 63, 64, 32, 65, 33, 66, 67, 68, 69, 70, 71, 72, 73, 27, 74, 75, 76, 35, 77, 78, 79, 80, 81, 82, 83, 84, 85, 177, 178, 179, 180, 90, 136, 181, 182, 183, 184, 185, 186, 187, 188, 189, 2, 190, 191, 192, 193, 194, 145, 146, 195, 196, 197, 198, 199, 200, 201, 202, 203, 204, 205, 206, 96, 97, 98, 99, 100, 101, 102, 103, 104, 17, 105, 106, 107, 108, 635, 636, 637, 638, 639, 640, 641, 642, 643, 659, 660, 661, 662, 663, 664, 665, 666, 667, 668, 669, 670, 671, 672, 673, 680, 681, 682, 683, 684, 685, 686, 687] (by decide +kernel) (by decide +kernel)
set_option maxRecDepth 20000 in
theorem gL_law_X3_patch : GoodIn wsL_law (wsV RL 27 RX3 yX3_patch wsX3_patch) := goodIn_app (goodIn_of _ (by decide +kernel)) ggL_law_X3_patch
set_option maxRecDepth 20000 in
theorem ggL_law_X4_patch : GoodIn wsL_law wsX4_patch := goodIn_r _ [210, 113, 151, 211, 212, 213, 5, 214, 49, 215, 216, 217, 218, 219, 220, 221, 222, 223, 224, 225, 226, 227, 228, 229, 158, 159, 160, 118, 119, 120, 121, 122, 123, 50, 230, 231, 232, 233, 234, 235, 236, 237, 124, 125, 126, 127, 644, 645, 646, 647, 648, 649, 650, 651, 652, 653, 654, 655, 656, 657, 658] (by decide +kernel) (by decide +kernel)
set_option maxRecDepth 20000 in
theorem gL_law_X4_patch : GoodIn wsL_law (wsV RL 30 RX4 yX4_patch wsX4_patch) := goodIn_app (goodIn_of _ (by decide +kernel)) ggL_law_X4_patch
set_option maxRecDepth 20000 in
theorem ggL_law_X3_hide : GoodIn wsL_law wsX3_hide := goodIn_r _ [241, 16, 15, 58, 59, 60, 14, 61, 62, 28, 29, 30, 31, 63, 64, 32, 65, 33, 66, 67, 68, 69, 70, 71, 72, 73, 27, 74, 75, 76, 35, 77, 78, 79, 80, 81, 82, 83, 84, 85, 177, 178, 179, 180, 90, 136, 181, 182, 183, 184, 185, 186, 187, 188, 189, 2, 190, 191, 192, 193, 194, 145, 146, 195, 196, 197, 198, 199, 200, 201, 202, 203, 204, 205, 206, 96, 97, 98, 99, 100, 101, 102, 103, 104, 17, 105, 106, 107, 108, 635, 636, 637, 638, 639, 640, 641, 642, 643, 659, 660, 661, 662, 663, 664, 665, 666, 667, 668, 669, 670, 671, 672, 673, 680, 681, 682, 683, 684, 685, 686, 687] (by decide +kernel) (by decide +kernel)
set_option maxRecDepth 20000 in
theorem gL_law_X3_hide : GoodIn wsL_law (wsV RL 31 RX3 yX3_hide wsX3_hide) := goodIn_app (goodIn_of _ (by decide +kernel)) ggL_law_X3_hide
set_option maxRecDepth 20000 in
theorem ggL_law_X4_hide : GoodIn wsL_law wsX4_hide := goodIn_r _ [245, 113, 151, 211, 212, 213, 5, 214, 49, 215, 216, 217, 218, 219, 220, 221, 222, 223, 224, 225, 226, 227, 228, 229, 158, 159, 160, 118, 119, 120, 121, 122, 123, 50, 230, 231, 232, 233, 234, 235, 236, 237, 124, 125, 126, 127, 644, 645, 646, 647, 648, 649, 650, 651, 652, 653, 654, 655, 656, 657, 658] (by decide +kernel) (by decide +kernel)
set_option maxRecDepth 20000 in
theorem gL_law_X4_hide : GoodIn wsL_law (wsV RL 34 RX4 yX4_hide wsX4_hide) := goodIn_app (goodIn_of _ (by decide +kernel)) ggL_law_X4_hide
set_option maxRecDepth 20000 in
theorem ggL_law_X3_collect : GoodIn wsL_law wsX3_collect := goodIn_r _ [249, 16, 15, 58, 59, 60, 14, 61, 62, 28, 29, 30, 31, 63, 64, 32, 65, 33, 66, 67, 68, 69, 70, 71, 72, 73, 27, 74, 75, 76, 35, 77, 78, 79, 80, 81, 82, 83, 84, 85, 250, 251, 252, 253, 90, 188, 181, 136, 254, 255, 256, 257, 258, 259, 96, 97, 98, 2, 99, 100, 101, 102, 103, 104, 17, 105, 106, 107, 108, 635, 636, 637, 638, 639, 640, 641, 642, 643, 659, 660, 661, 662, 663, 664, 665, 666, 667, 668, 669, 670, 671, 672, 673, 680, 681, 682, 683, 684, 685, 686, 687] (by decide +kernel) (by decide +kernel)
set_option maxRecDepth 20000 in
theorem gL_law_X3_collect : GoodIn wsL_law (wsV RL 35 RX3 yX3_collect wsX3_collect) := goodIn_app (goodIn_of _ (by decide +kernel)) ggL_law_X3_collect
set_option maxRecDepth 20000 in
theorem ggL_law_X4_collect : GoodIn wsL_law wsX4_collect := goodIn_r _ [263, 113, 49, 151, 211, 212, 213, 5, 214, 219, 220, 221, 222, 118, 119, 120, 121, 122, 123, 50, 264, 265, 266, 267, 124, 125, 126, 127, 644, 645, 646, 647, 648, 649, 650, 651, 652, 653, 654, 655, 656, 657, 658] (by decide +kernel) (by decide +kernel)
set_option maxRecDepth 20000 in
theorem gL_law_X4_collect : GoodIn wsL_law (wsV RL 38 RX4 yX4_collect wsX4_collect) := goodIn_app (goodIn_of _ (by decide +kernel)) ggL_law_X4_collect
set_option maxRecDepth 20000 in
theorem ggL_law_X3_end : GoodIn wsL_law wsX3_end := goodIn_r _ [271, 16, 15, 58, 59, 60, 14, 61, 62, 28, 29, 30, 31, 63, 64, 32, 65, 33, 66, 67, 68, 69, 70, 71, 72, 73, 27, 74, 75, 76, 35, 77, 78, 79, 80, 81, 82, 83, 84, 85, 272, 273, 274, 275, 90, 91, 276, 277, 278, 279, 182, 280, 254, 281, 282, 283, 139, 284, 285, 2, 286, 287, 288, 289, 290, 291, 292, 293, 294, 295, 256, 257, 258, 259, 296, 297, 298, 299, 300, 301, 302, 303, 304, 305, 306, 96, 97, 98, 99, 100, 101, 102, 103, 104, 17, 105, 106, 107, 108, 635, 636, 637, 638, 639, 640, 641, 642, 643, 659, 660, 661, 662, 663, 664, 665, 666, 667, 668, 669, 670, 671, 672, 673, 680, 681, 682, 683, 684, 685, 686, 687] (by decide +kernel) (by decide +kernel)
set_option maxRecDepth 20000 in
theorem gL_law_X3_end : GoodIn wsL_law (wsV RL 39 RX3 yX3_end wsX3_end) := goodIn_app (goodIn_of _ (by decide +kernel)) ggL_law_X3_end
set_option maxRecDepth 20000 in
theorem ggL_law_X4_end : GoodIn wsL_law wsX4_end := goodIn_r _ [310, 113, 49, 114, 115, 116, 5, 117, 118, 119, 120, 121, 122, 123, 50, 311, 312, 313, 314, 315, 316, 317, 318, 219, 220, 221, 222, 124, 125, 126, 127, 319, 320, 321, 322, 264, 265, 266, 267, 323, 324, 325, 326, 327, 328, 329, 644, 645, 646, 647, 648, 649, 650, 651, 652, 653, 654, 655, 656, 657, 658] (by decide +kernel) (by decide +kernel)
set_option maxRecDepth 20000 in
theorem gL_law_X4_end : GoodIn wsL_law (wsV RL 42 RX4 yX4_end wsX4_end) := goodIn_app (goodIn_of _ (by decide +kernel)) ggL_law_X4_end
set_option maxRecDepth 20000 in
theorem ggL_law_X3_set : GoodIn wsL_law wsX3_set := goodIn_r _ [333, 16, 15, 58, 59, 60, 14, 61, 62, 28, 29, 30, 31, 63, 64, 32, 65, 33, 66, 67, 68, 69, 70, 71, 72, 73, 27, 74, 75, 76, 35, 77, 78, 79, 80, 81, 82, 83, 84, 85, 334, 335, 336, 337, 90, 338, 339, 340, 96, 97, 98, 2, 99, 100, 101, 102, 103, 104, 17, 105, 106, 107, 108, 635, 636, 637, 638, 639, 640, 641, 642, 643, 659, 660, 661, 662, 663, 664, 665, 666, 667, 668, 669, 670, 671, 672, 673, 680, 681, 682, 683, 684, 685, 686, 687] (by decide +kernel) (by decide +kernel)
set_option maxRecDepth 20000 in
theorem gL_law_X3_set : GoodIn wsL_law (wsV RL 43 RX3 yX3_set wsX3_set) := goodIn_app (goodIn_of _ (by decide +kernel)) ggL_law_X3_set
set_option maxRecDepth 20000 in
theorem ggL_law_X4_set : GoodIn wsL_law wsX4_set := goodIn_r _ [344, 113, 49, 115, 116, 5, 117, 345, 346, 347, 118, 119, 120, 121, 122, 123, 50, 644, 645, 646, 647, 648, 649, 650, 651, 652, 653, 654, 655, 656, 657, 658] (by decide +kernel) (by decide +kernel)
set_option maxRecDepth 20000 in
theorem gL_law_X4_set : GoodIn wsL_law (wsV RL 46 RX4 yX4_set wsX4_set) := goodIn_app (goodIn_of _ (by decide +kernel)) ggL_law_X4_set
set_option maxRecDepth 20000 in
theorem ggL_law_X3_smithyOf : GoodIn wsL_law wsX3_smithyOf := goodIn_r _ [351, 15, 352, 353, 354, 355, 356, 357, 358, 359, 360, 361, 362, 71, 72, 14, 73, 62, 27, 293, 294, 2, 295, 363, 257, 258, 259, 28, 364, 141, 142, 143, 138, 139, 140, 144, 145, 146, 635, 636, 637, 638, 639, 640, 641, 642, 643, 680, 681, 682, 683, 684, 685, 686, 687, 659, 660, 661, 662, 663, 664, 665, 666, 667, 668, 669, 670, 671, 672, 673] (by decide +kernel) (by decide +kernel)
set_option maxRecDepth 20000 in
theorem gL_law_X3_smithyOf : GoodIn wsL_law (wsV RL 47 RX3 yX3_smithyOf wsX3_smithyOf) := goodIn_app (goodIn_of _ (by decide +kernel)) ggL_law_X3_smithyOf
set_option maxRecDepth 20000 in
theorem ggL_law_X4_smithyOf : GoodIn wsL_law wsX4_smithyOf := goodIn_r _ [368, 113, 49, 211, 212, 213, 5, 214, 115, 116, 117, 319, 320, 321, 322, 219, 220, 221, 222, 264, 265, 266, 267, 152, 153, 154, 155, 156, 157, 158, 159, 160, 644, 645, 646, 647, 648, 649, 650, 651, 652, 653, 654, 655, 656, 657, 658] (by decide +kernel) (by decide +kernel)
set_option maxRecDepth 20000 in
theorem gL_law_X4_smithyOf : GoodIn wsL_law (wsV RL 50 RX4 yX4_smithyOf wsX4_smithyOf) := goodIn_app (goodIn_of _ (by decide +kernel)) ggL_law_X4_smithyOf
set_option maxRecDepth 20000 in
theorem ggL_law_X3_why : GoodIn wsL_law wsX3_why := goodIn_r _ [372, 15, 352, 362, 71, 72, 14, 73, 62, 27, 373, 374, 2, 375, 376, 185, 186, 187, 188, 64, 32, 65, 189, 190, 191, 192, 193, 35, 194, 79, 80, 145, 146, 195, 196, 197, 198, 181, 31, 182, 635, 636, 637, 638, 639, 640, 641, 642, 643, 659, 660, 661, 662, 663, 664, 665, 666, 667, 668, 669, 670, 671, 672, 673, 680, 681, 682, 683, 684, 685, 686, 687] (by decide +kernel) (by decide +kernel)
set_option maxRecDepth 20000 in
theorem gL_law_X3_why : GoodIn wsL_law (wsV RL 51 RX3 yX3_why wsX3_why) := goodIn_app (goodIn_of _ (by decide +kernel)) ggL_law_X3_why
set_option maxRecDepth 20000 in
theorem ggL_law_X4_why : GoodIn wsL_law wsX4_why := goodIn_r _ [380, 113, 211, 212, 213, 5, 214, 49, 115, 116, 117, 215, 216, 217, 218, 219, 220, 221, 222, 223, 224, 225, 226, 227, 228, 229, 158, 159, 160, 644, 645, 646, 647, 648, 649, 650, 651, 652, 653, 654, 655, 656, 657, 658] (by decide +kernel) (by decide +kernel)
set_option maxRecDepth 20000 in
theorem gL_law_X4_why : GoodIn wsL_law (wsV RL 54 RX4 yX4_why wsX4_why) := goodIn_app (goodIn_of _ (by decide +kernel)) ggL_law_X4_why
set_option maxRecDepth 20000 in
theorem ggL_law_X3_mend : GoodIn wsL_law wsX3_mend := goodIn_r _ [384, 15, 352, 362, 71, 72, 14, 73, 62, 27, 373, 374, 2, 375, 385, 189, 190, 386, 192, 193, 35, 194, 79, 80, 145, 146, 387, 200, 201, 202, 30, 191, 388, 204, 205, 206, 635, 636, 637, 638, 639, 640, 641, 642, 643, 659, 660, 661, 662, 663, 664, 665, 666, 667, 668, 669, 670, 671, 672, 673, 680, 681, 682, 683, 684, 685, 686, 687] (by decide +kernel) (by decide +kernel)
set_option maxRecDepth 20000 in
theorem gL_law_X3_mend : GoodIn wsL_law (wsV RL 55 RX3 yX3_mend wsX3_mend) := goodIn_app (goodIn_of _ (by decide +kernel)) ggL_law_X3_mend
set_option maxRecDepth 20000 in
theorem ggL_law_X4_mend : GoodIn wsL_law wsX4_mend := goodIn_r _ [392, 113, 211, 212, 213, 5, 214, 49, 115, 116, 117, 223, 224, 225, 226, 227, 228, 229, 219, 220, 221, 222, 158, 159, 160, 234, 235, 236, 237, 644, 645, 646, 647, 648, 649, 650, 651, 652, 653, 654, 655, 656, 657, 658] (by decide +kernel) (by decide +kernel)
set_option maxRecDepth 20000 in
theorem gL_law_X4_mend : GoodIn wsL_law (wsV RL 59 RX4 yX4_mend wsX4_mend) := goodIn_app (goodIn_of _ (by decide +kernel)) ggL_law_X4_mend
set_option maxRecDepth 20000 in
theorem ggL_law_X3_coldIn : GoodIn wsL_law wsX3_coldIn := goodIn_r _ [396, 15, 352, 397, 362, 71, 72, 14, 73, 62, 27, 398, 399, 400, 401, 182, 254, 280, 256, 257, 258, 259, 28, 285, 2, 286, 287, 288, 139, 289, 290, 291, 292, 283, 284, 293, 294, 295, 635, 636, 637, 638, 639, 640, 641, 642, 643, 659, 660, 661, 662, 663, 664, 665, 666, 667, 668, 669, 670, 671, 672, 673, 680, 681, 682, 683, 684, 685, 686, 687] (by decide +kernel) (by decide +kernel)
set_option maxRecDepth 20000 in
theorem gL_law_X3_coldIn : GoodIn wsL_law (wsV RL 60 RX3 yX3_coldIn wsX3_coldIn) := goodIn_app (goodIn_of _ (by decide +kernel)) ggL_law_X3_coldIn
set_option maxRecDepth 20000 in
theorem ggL_law_X4_coldIn : GoodIn wsL_law wsX4_coldIn := goodIn_r _ [405, 113, 211, 212, 213, 5, 214, 49, 406, 407, 408, 409, 52, 410, 411, 412, 413, 264, 265, 266, 267, 219, 220, 221, 222, 315, 316, 317, 318, 124, 125, 126, 127, 319, 320, 321, 322, 644, 645, 646, 647, 648, 649, 650, 651, 652, 653, 654, 655, 656, 657, 658] (by decide +kernel) (by decide +kernel)
set_option maxRecDepth 20000 in
theorem gL_law_X4_coldIn : GoodIn wsL_law (wsV RL 63 RX4 yX4_coldIn wsX4_coldIn) := goodIn_app (goodIn_of _ (by decide +kernel)) ggL_law_X4_coldIn
set_option maxRecDepth 20000 in
theorem ggL_law_X3_next : GoodIn wsL_law wsX3_next := goodIn_r _ [417, 15, 418, 419, 420, 14, 421, 422, 62, 182, 70, 71, 72, 73, 27, 423, 424, 425, 426, 188, 64, 137, 138, 139, 140, 427, 399, 400, 401, 254, 280, 256, 257, 258, 259, 28, 285, 2, 286, 287, 288, 289, 290, 291, 292, 283, 284, 293, 294, 295, 635, 636, 637, 638, 639, 640, 641, 642, 643, 659, 660, 661, 662, 663, 664, 665, 666, 667, 668, 669, 670, 671, 672, 673, 680, 681, 682, 683, 684, 685, 686, 687] (by decide +kernel) (by decide +kernel)
set_option maxRecDepth 20000 in
theorem gL_law_X3_next : GoodIn wsL_law (wsV RL 64 RX3 yX3_next wsX3_next) := goodIn_app (goodIn_of _ (by decide +kernel)) ggL_law_X3_next
set_option maxRecDepth 20000 in
theorem ggL_law_X4_next : GoodIn wsL_law wsX4_next := goodIn_r _ [431, 410, 49, 406, 407, 408, 5, 409, 52, 411, 412, 413, 264, 265, 266, 267, 219, 220, 221, 222, 315, 316, 317, 318, 124, 125, 126, 127, 319, 320, 321, 322, 432, 433, 434, 435, 155, 156, 157, 644, 645, 646, 647, 648, 649, 650, 651, 652, 653, 654, 655, 656, 657, 658] (by decide +kernel) (by decide +kernel)
set_option maxRecDepth 20000 in
theorem gL_law_X4_next : GoodIn wsL_law (wsV RL 68 RX4 yX4_next wsX4_next) := goodIn_app (goodIn_of _ (by decide +kernel)) ggL_law_X4_next
set_option maxRecDepth 20000 in
theorem ggL_law_X3_round : GoodIn wsL_law wsX3_round := goodIn_r _ [439, 15, 440, 352, 441, 442, 443, 14, 444, 64, 90, 188, 445, 446, 447, 448, 62, 70, 71, 72, 73, 27, 141, 2, 142, 143, 138, 139, 140, 144, 145, 146, 195, 196, 197, 198, 181, 31, 182, 189, 190, 191, 192, 193, 35, 194, 79, 80, 199, 200, 201, 202, 30, 635, 636, 637, 638, 639, 640, 641, 642, 643, 659, 660, 661, 662, 663, 664, 665, 666, 667, 668, 669, 670, 671, 672, 673, 680, 681, 682, 683, 684, 685, 686, 687] (by decide +kernel) (by decide +kernel)
set_option maxRecDepth 20000 in
theorem gL_law_X3_round : GoodIn wsL_law (wsV RL 69 RX3 yX3_round wsX3_round) := goodIn_app (goodIn_of _ (by decide +kernel)) ggL_law_X3_round
set_option maxRecDepth 20000 in
theorem ggL_law_X4_round : GoodIn wsL_law wsX4_round := goodIn_r _ [452, 49, 113, 115, 116, 5, 117, 453, 454, 455, 456, 410, 219, 220, 221, 222, 152, 153, 154, 155, 156, 157, 158, 159, 160, 223, 224, 225, 226, 227, 228, 229, 234, 235, 236, 237, 644, 645, 646, 647, 648, 649, 650, 651, 652, 653, 654, 655, 656, 657, 658] (by decide +kernel) (by decide +kernel)
set_option maxRecDepth 20000 in
theorem gL_law_X4_round : GoodIn wsL_law (wsV RL 72 RX4 yX4_round wsX4_round) := goodIn_app (goodIn_of _ (by decide +kernel)) ggL_law_X4_round
set_option maxRecDepth 20000 in
theorem ggL_law_X3_mean : GoodIn wsL_law wsX3_mean := goodIn_r _ [460, 15, 440, 397, 461, 462, 463, 14, 464, 62, 182, 70, 71, 72, 73, 27, 465, 466, 2, 467, 468, 635, 636, 637, 638, 639, 640, 641, 642, 643, 659, 660, 661, 662, 663, 664, 665, 666, 667, 668, 669, 670, 671, 672, 673, 680, 681, 682, 683, 684, 685, 686, 687] (by decide +kernel) (by decide +kernel)
set_option maxRecDepth 20000 in
theorem gL_law_X3_mean : GoodIn wsL_law (wsV RL 73 RX3 yX3_mean wsX3_mean) := goodIn_app (goodIn_of _ (by decide +kernel)) ggL_law_X3_mean
set_option maxRecDepth 20000 in
theorem ggL_law_X4_mean : GoodIn wsL_law wsX4_mean := goodIn_r _ [472, 49, 410, 473, 474, 475, 5, 476, 219, 220, 221, 222, 477, 478, 479, 480, 481, 482, 483, 484, 485, 486, 487, 488, 644, 645, 646, 647, 648, 649, 650, 651, 652, 653, 654, 655, 656, 657, 658] (by decide +kernel) (by decide +kernel)
set_option maxRecDepth 20000 in
theorem gL_law_X4_mean : GoodIn wsL_law (wsV RL 76 RX4 yX4_mean wsX4_mean) := goodIn_app (goodIn_of _ (by decide +kernel)) ggL_law_X4_mean
set_option maxRecDepth 20000 in
theorem ggL_law_X3_count : GoodIn wsL_law wsX3_count := goodIn_r _ [492, 15, 440, 493, 361, 494, 495, 496, 497, 498, 499, 500, 104, 21, 501, 502, 503, 504, 505, 352, 506, 507, 508, 14, 509, 62, 181, 70, 71, 72, 73, 27, 510, 297, 298, 299, 254, 256, 257, 258, 259, 28, 635, 636, 637, 638, 639, 640, 641, 642, 643, 659, 660, 661, 662, 663, 664, 665, 666, 667, 668, 669, 670, 671, 672, 673, 674, 675, 676, 677, 678, 679, 680, 681, 682, 683, 684, 685, 686, 687] (by decide +kernel) (by decide +kernel)
set_option maxRecDepth 20000 in
theorem gL_law_X3_count : GoodIn wsL_law (wsV RL 77 RX3 yX3_count wsX3_count) := goodIn_app (goodIn_of _ (by decide +kernel)) ggL_law_X3_count
set_option maxRecDepth 20000 in
theorem ggL_law_X4_count : GoodIn wsL_law wsX4_count := goodIn_r _ [514, 49, 123, 515, 113, 473, 474, 475, 5, 476, 219, 220, 221, 222, 323, 324, 325, 326, 264, 265, 266, 267, 115, 116, 117, 644, 645, 646, 647, 648, 649, 650, 651, 652, 653, 654, 655, 656, 657, 658] (by decide +kernel) (by decide +kernel)
set_option maxRecDepth 20000 in
theorem gL_law_X4_count : GoodIn wsL_law (wsV RL 80 RX4 yX4_count wsX4_count) := goodIn_app (goodIn_of _ (by decide +kernel)) ggL_law_X4_count
set_option maxRecDepth 20000 in
theorem ggL_law_X3_undo : GoodIn wsL_law wsX3_undo := goodIn_r _ [519, 104, 17, 520, 15, 58, 59, 60, 14, 61, 62, 28, 29, 30, 31, 63, 64, 32, 65, 33, 66, 67, 68, 69, 70, 71, 72, 73, 27, 74, 75, 76, 35, 77, 78, 79, 80, 81, 82, 83, 84, 85, 635, 636, 637, 638, 639, 640, 641, 642, 643, 659, 660, 661, 662, 663, 664, 665, 666, 667, 668, 669, 670, 671, 672, 673, 680, 681, 682, 683, 684, 685, 686, 687] (by decide +kernel) (by decide +kernel)
set_option maxRecDepth 20000 in
theorem gL_law_X3_undo : GoodIn wsL_law (wsV RL 81 RX3 yX3_undo wsX3_undo) := goodIn_app (goodIn_of _ (by decide +kernel)) ggL_law_X3_undo
set_option maxRecDepth 20000 in
theorem ggL_law_X4_undo : GoodIn wsL_law wsX4_undo := goodIn_r _ [524, 123, 151, 49, 50, 644, 645, 646, 647, 648, 649, 650, 651, 652, 653, 654, 655, 656, 657, 658] (by decide +kernel) (by decide +kernel)
set_option maxRecDepth 20000 in
theorem gL_law_X4_undo : GoodIn wsL_law (wsV RL 84 RX4 yX4_undo wsX4_undo) := goodIn_app (goodIn_of _ (by decide +kernel)) ggL_law_X4_undo
set_option maxRecDepth 20000 in
theorem ggL_law_X3_type : GoodIn wsL_law wsX3_type := goodIn_r _ [528, 352, 21, 529, 530, 531, 20, 532, 533, 43, 534, 635, 636, 637, 638, 639, 640, 641, 642, 643, 674, 675, 676, 677, 678, 679] (by decide +kernel) (by decide +kernel)
set_option maxRecDepth 20000 in
theorem gL_law_X3_type : GoodIn wsL_law (wsV RL 85 RX3 yX3_type wsX3_type) := goodIn_app (goodIn_of _ (by decide +kernel)) ggL_law_X3_type
set_option maxRecDepth 20000 in
theorem ggL_law_X4_type : GoodIn wsL_law wsX4_type := goodIn_r _ [538, 113, 515, 114, 53, 115, 116, 5, 117, 644, 645, 646, 647, 648, 649, 650, 651, 652, 653, 654, 655, 656, 657, 658] (by decide +kernel) (by decide +kernel)
set_option maxRecDepth 20000 in
theorem gL_law_X4_type : GoodIn wsL_law (wsV RL 88 RX4 yX4_type wsX4_type) := goodIn_app (goodIn_of _ (by decide +kernel)) ggL_law_X4_type
set_option maxRecDepth 20000 in
theorem ggL_law_X3_clearText : GoodIn wsL_law wsX3_clearText := goodIn_r _ [542, 21, 501, 635, 636, 637, 638, 639, 640, 641, 642, 643, 674, 675, 676, 677, 678, 679] (by decide +kernel) (by decide +kernel)
set_option maxRecDepth 20000 in
theorem gL_law_X3_clearText : GoodIn wsL_law (wsV RL 89 RX3 yX3_clearText wsX3_clearText) := goodIn_app (goodIn_of _ (by decide +kernel)) ggL_law_X3_clearText
set_option maxRecDepth 20000 in
theorem ggL_law_X4_clearText : GoodIn wsL_law wsX4_clearText := goodIn_r _ [546, 515, 644, 645, 646, 647, 648, 649, 650, 651, 652, 653, 654, 655, 656, 657, 658] (by decide +kernel) (by decide +kernel)
set_option maxRecDepth 20000 in
theorem gL_law_X4_clearText : GoodIn wsL_law (wsV RL 92 RX4 yX4_clearText wsX4_clearText) := goodIn_app (goodIn_of _ (by decide +kernel)) ggL_law_X4_clearText
set_option maxRecDepth 20000 in
theorem ggL_law_X3_fault : GoodIn wsL_law wsX3_fault := goodIn_r _ [550, 352, 397, 551, 552, 553, 554, 555, 556, 2, 557, 16, 15, 558, 21, 501, 559, 560, 561, 562, 58, 59, 60, 14, 61, 62, 28, 29, 30, 31, 63, 64, 32, 65, 33, 66, 67, 68, 69, 70, 71, 72, 73, 27, 74, 75, 76, 35, 77, 78, 79, 80, 81, 82, 83, 84, 85, 563, 564, 565, 20, 566, 567, 568, 569, 570, 571, 572, 573, 574, 533, 43, 575, 576, 577, 578, 579, 580, 581, 582, 583, 584, 585, 586, 587, 588, 90, 589, 133, 134, 135, 136, 137, 138, 139, 140, 141, 142, 143, 144, 145, 146, 590, 166, 167, 168, 91, 591, 178, 179, 180, 181, 182, 183, 184, 185, 186, 187, 188, 189, 190, 191, 192, 193, 194, 195, 196, 197, 198, 199, 200, 201, 202, 203, 204, 205, 206, 592, 251, 252, 253, 254, 255, 256, 257, 258, 259, 593, 273, 274, 275, 276, 277, 278, 279, 280, 281, 282, 283, 284, 285, 286, 287, 288, 289, 290, 291, 292, 293, 294, 295, 296, 297, 298, 299, 300, 301, 302, 303, 304, 305, 306, 635, 636, 637, 638, 639, 640, 641, 642, 643, 674, 675, 676, 677, 678, 679, 659, 660, 661, 662, 663, 664, 665, 666, 667, 668, 669, 670, 671, 672, 673, 680, 681, 682, 683, 684, 685, 686, 687] (by decide +kernel) (by decide +kernel)
set_option maxRecDepth 20000 in
theorem gL_law_X3_fault : GoodIn wsL_law (wsV RL 93 RX3 yX3_fault wsX3_fault) := goodIn_app (goodIn_of _ (by decide +kernel)) ggL_law_X3_fault
set_option maxRecDepth 20000 in
theorem ggL_law_X4_fault : GoodIn wsL_law wsX4_fault := goodIn_r _ [597, 113, 49, 51, 410, 598, 599, 600, 115, 116, 5, 117, 411, 412, 413, 601, 602, 603, 604, 122, 605, 606, 515, 607, 608, 609, 610, 53, 611, 612, 613, 614, 615, 616, 617, 618, 619, 620, 621, 148, 149, 150, 151, 152, 153, 154, 155, 156, 157, 158, 159, 160, 118, 119, 120, 121, 123, 50, 622, 170, 171, 172, 114, 623, 208, 209, 210, 211, 212, 213, 214, 215, 216, 217, 218, 219, 220, 221, 222, 223, 224, 225, 226, 227, 228, 229, 230, 231, 232, 233, 234, 235, 236, 237, 124, 125, 126, 127, 624, 243, 244, 245, 625, 261, 262, 263, 264, 265, 266, 267, 626, 308, 309, 310, 311, 312, 313, 314, 315, 316, 317, 318, 319, 320, 321, 322, 323, 324, 325, 326, 327, 328, 329, 644, 645, 646, 647, 648, 649, 650, 651, 652, 653, 654, 655, 656, 657, 658] (by decide +kernel) (by decide +kernel)
set_option maxRecDepth 20000 in
theorem gL_law_X4_fault : GoodIn wsL_law (wsV RL 96 RX4 yX4_fault wsX4_fault) := goodIn_app (goodIn_of _ (by decide +kernel)) ggL_law_X4_fault
set_option maxRecDepth 20000 in
theorem ggL_law_X3_play : GoodIn wsL_law wsX3_play := goodIn_r _ [630, 520, 558, 554, 555, 556, 2, 557, 16, 15, 21, 501, 559, 560, 561, 562, 58, 59, 60, 14, 61, 62, 28, 29, 30, 31, 63, 64, 32, 65, 33, 66, 67, 68, 69, 70, 71, 72, 73, 27, 74, 75, 76, 35, 77, 78, 79, 80, 81, 82, 83, 84, 85, 563, 564, 565, 20, 566, 567, 568, 569, 570, 571, 572, 573, 574, 533, 43, 575, 576, 577, 578, 579, 580, 581, 582, 583, 584, 551, 552, 553, 585, 586, 587, 588, 90, 589, 133, 134, 135, 136, 137, 138, 139, 140, 141, 142, 143, 144, 145, 146, 590, 166, 167, 168, 91, 591, 178, 179, 180, 181, 182, 183, 184, 185, 186, 187, 188, 189, 190, 191, 192, 193, 194, 195, 196, 197, 198, 199, 200, 201, 202, 203, 204, 205, 206, 592, 251, 252, 253, 254, 255, 256, 257, 258, 259, 593, 273, 274, 275, 276, 277, 278, 279, 280, 281, 282, 283, 284, 285, 286, 287, 288, 289, 290, 291, 292, 293, 294, 295, 296, 297, 298, 299, 300, 301, 302, 303, 304, 305, 306, 96, 97, 98, 99, 100, 101, 102, 103, 104, 17, 105, 106, 107, 108, 635, 636, 637, 638, 639, 640, 641, 642, 643, 674, 675, 676, 677, 678, 679, 659, 660, 661, 662, 663, 664, 665, 666, 667, 668, 669, 670, 671, 672, 673, 680, 681, 682, 683, 684, 685, 686, 687] (by decide +kernel) (by decide +kernel)
set_option maxRecDepth 20000 in
theorem gL_law_X3_play : GoodIn wsL_law (wsV RL 97 RX3 yX3_play wsX3_play) := goodIn_app (goodIn_of _ (by decide +kernel)) ggL_law_X3_play
set_option maxRecDepth 20000 in
theorem ggL_law_X4_play : GoodIn wsL_law wsX4_play := goodIn_r _ [634, 49, 51, 151, 606, 410, 411, 412, 5, 413, 601, 602, 603, 604, 122, 605, 598, 515, 599, 600, 607, 608, 609, 610, 53, 611, 612, 613, 614, 615, 616, 115, 116, 117, 617, 618, 619, 620, 621, 148, 149, 150, 113, 152, 153, 154, 155, 156, 157, 158, 159, 160, 118, 119, 120, 121, 123, 50, 622, 170, 171, 172, 114, 623, 208, 209, 210, 211, 212, 213, 214, 215, 216, 217, 218, 219, 220, 221, 222, 223, 224, 225, 226, 227, 228, 229, 230, 231, 232, 233, 234, 235, 236, 237, 124, 125, 126, 127, 624, 243, 244, 245, 625, 261, 262, 263, 264, 265, 266, 267, 626, 308, 309, 310, 311, 312, 313, 314, 315, 316, 317, 318, 319, 320, 321, 322, 323, 324, 325, 326, 327, 328, 329, 644, 645, 646, 647, 648, 649, 650, 651, 652, 653, 654, 655, 656, 657, 658] (by decide +kernel) (by decide +kernel)
set_option maxRecDepth 20000 in
theorem gL_law_X4_play : GoodIn wsL_law (wsV RL 100 RX4 yX4_play wsX4_play) := goodIn_app (goodIn_of _ (by decide +kernel)) ggL_law_X4_play
