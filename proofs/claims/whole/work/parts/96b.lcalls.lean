set_option maxRecDepth 20000 in
theorem ggL_law_X8_init : GoodIn wsL_law wsX8_init := goodIn_r _ [9, 10, 11, 12, 13, 14, 15, 16, 17, 18, 19, 20, 21, 22, 23, 24, 25, 26, 27, 28, 29, 30, 31, 32, 33, 34, 35, 36, 37, 38, 39, 40, 41, 42, 43, 44, 45, 46, 47, 48, 49, 50, 51, 52, 53, 54, 55, 56, 57, 58, 59, 60, 61, 62, 63, 64, 65, 66, 67, 68, 69, 70, 71, 72, 73, 74, 75, 76, 77, 78, 79, 80, 81, 82, 83, 84, 85, 86, 87, 88, 89, 90, 91, 92, 93, 94, 95, 96, 97, 98, 99, 100, 101, 102, 103, 104, 105, 106, 107, 108, 109, 110, 111, 112, 853, 854, 855, 856, 857, 858, 859, 812, 813, 814, 815, 816, 817, 818, 819, 820, 860, 861, 862, 863, 864, 865, 866, 867, 868, 869, 870, 871, 872, 873, 874, 875, 876, 877, 878, 879, 880, 881, 882, 883, 884, 885, 886, 887, 888, 889, 890, 891, 892, 893] (by decide +kernel) (by decide +kernel)
set_option maxRecDepth 20000 in
theorem gL_law_X8_init : GoodIn wsL_law (wsX8_init) := ggL_law_X8_init
set_option maxRecDepth 20000 in
theorem ggL_law_X9_init : GoodIn wsL_law wsX9_init := goodIn_r _ [115, 116, 11, 12, 44, 117, 118, 119, 120, 37, 121, 122, 123, 124, 125, 126, 127, 128, 129, 130, 131, 132, 133, 134, 135, 136, 137, 138, 139, 821, 822, 823, 824, 825, 826, 827, 828, 829, 830, 831, 832, 833, 834, 835, 836, 837, 838, 839, 840, 841, 842, 843, 844, 845, 846, 847, 848, 849, 850, 851, 852] (by decide +kernel) (by decide +kernel)
set_option maxRecDepth 20000 in
theorem gL_law_X9_init : GoodIn wsL_law (wsX9_init) := ggL_law_X9_init
set_option maxRecDepth 20000 in
theorem ggL_law_X8_feed : GoodIn wsL_law wsX8_feed := goodIn_r _ [143, 16, 144, 145, 146, 147, 15, 148, 149, 45, 812, 813, 814, 815, 816, 817, 818, 819, 820, 853, 854, 855, 856, 857, 858, 859] (by decide +kernel) (by decide +kernel)
set_option maxRecDepth 20000 in
theorem gL_law_X8_feed : GoodIn wsL_law (wsV RL 37 RX8 yX8_feed wsX8_feed) := goodIn_app (goodIn_of _ (by decide +kernel)) ggL_law_X8_feed
set_option maxRecDepth 20000 in
theorem ggL_law_X9_feed : GoodIn wsL_law wsX9_feed := goodIn_r _ [153, 154, 155, 156, 157, 158, 5, 159, 117, 821, 822, 823, 824, 825, 826, 827, 828, 829, 830, 831, 832, 833, 834, 835, 836, 837, 838, 839, 840, 841, 842, 843, 844, 845, 846, 847, 848, 849, 850, 851, 852] (by decide +kernel) (by decide +kernel)
set_option maxRecDepth 20000 in
theorem gL_law_X9_feed : GoodIn wsL_law (wsV RL 41 RX9 yX9_feed wsX9_feed) := goodIn_app (goodIn_of _ (by decide +kernel)) ggL_law_X9_feed
set_option maxRecDepth 20000 in
theorem ggL_law_X8_end : GoodIn wsL_law wsX8_end := goodIn_r _ [163, 16, 164, 165, 166, 15, 167, 149, 812, 813, 814, 815, 816, 817, 818, 819, 820, 853, 854, 855, 856, 857, 858, 859] (by decide +kernel) (by decide +kernel)
set_option maxRecDepth 20000 in
theorem gL_law_X8_end : GoodIn wsL_law (wsV RL 42 RX8 yX8_end wsX8_end) := goodIn_app (goodIn_of _ (by decide +kernel)) ggL_law_X8_end
set_option maxRecDepth 20000 in
theorem ggL_law_X9_end : GoodIn wsL_law wsX9_end := goodIn_r _ [171, 154, 155, 821, 822, 823, 824, 825, 826, 827, 828, 829, 830, 831, 832, 833, 834, 835, 836, 837, 838, 839, 840, 841, 842, 843, 844, 845, 846, 847, 848, 849, 850, 851, 852] (by decide +kernel) (by decide +kernel)
set_option maxRecDepth 20000 in
theorem gL_law_X9_end : GoodIn wsL_law (wsV RL 46 RX9 yX9_end wsX9_end) := goodIn_app (goodIn_of _ (by decide +kernel)) ggL_law_X9_end
set_option maxRecDepth 20000 in
theorem ggL_law_X8_add : GoodIn wsL_law wsX8_add := goodIn_r _ [175, 16, 28, 39, 20, 176, 38, 177, 24, 36, 178, 179, 180, 181, 182, 15, 183, 184, 149, 45, 185, 186, 187, 188, 189, 190, 191, 46, 164, 165, 166, 167, 192, 193, 194, 27, 195, 71, 196, 197, 198, 199, 70, 200, 201, 202, 203, 204, 205, 206, 207, 47, 208, 209, 210, 2, 211, 212, 40, 213, 214, 215, 216, 217, 218, 219, 220, 221, 222, 19, 223, 55, 224, 225, 226, 227, 228, 229, 230, 53, 231, 51, 52, 54, 232, 233, 234, 235, 236, 237, 238, 239, 240, 241, 242, 243, 72, 244, 245, 246, 247, 248, 249, 250, 251, 252, 253, 254, 255, 256, 11, 12, 6, 257, 37, 258, 259, 260, 261, 262, 263, 264, 265, 78, 266, 267, 268, 269, 270, 271, 272, 273, 274, 275, 276, 277, 278, 279, 280, 281, 282, 283, 284, 285, 286, 287, 288, 289, 290, 291, 292, 293, 294, 295, 296, 297, 298, 299, 77, 300, 301, 302, 303, 304, 305, 306, 307, 308, 309, 310, 311, 312, 313, 314, 315, 316, 317, 318, 319, 320, 321, 322, 323, 324, 325, 326, 327, 328, 329, 330, 331, 332, 333, 334, 335, 23, 336, 337, 338, 339, 340, 341, 342, 343, 344, 62, 345, 63, 64, 60, 61, 346, 347, 348, 349, 350, 351, 352, 353, 354, 355, 356, 357, 358, 359, 360, 361, 362, 363, 364, 365, 366, 367, 368, 369, 370, 371, 372, 373, 374, 375, 376, 377, 378, 379, 380, 381, 382, 383, 384, 812, 813, 814, 815, 816, 817, 818, 819, 820, 860, 861, 862, 863, 864, 894, 895, 896, 897, 898, 899, 900, 880, 881, 882, 883, 884, 885, 886, 887, 853, 854, 855, 856, 857, 858, 859, 872, 873, 874, 875, 888, 889, 890, 865, 866, 867, 868, 869, 870, 871] (by decide +kernel) (by decide +kernel)
set_option maxRecDepth 20000 in
theorem gL_law_X8_add : GoodIn wsL_law (wsV RL 47 RX8 yX8_add wsX8_add) := goodIn_app (goodIn_of _ (by decide +kernel)) ggL_law_X8_add
set_option maxRecDepth 20000 in
theorem ggL_law_X9_add : GoodIn wsL_law wsX9_add := goodIn_r _ [388, 154, 155, 389, 390, 391, 392, 393, 128, 124, 126, 125, 394, 395, 396, 397, 5, 398, 399, 117, 118, 400, 401, 402, 403, 404, 123, 405, 406, 407, 408, 409, 121, 122, 120, 410, 411, 412, 413, 821, 822, 823, 824, 825, 826, 827, 828, 829, 830, 831, 832, 833, 834, 835, 836, 837, 838, 839, 840, 841, 842, 843, 844, 845, 846, 847, 848, 849, 850, 851, 852] (by decide +kernel) (by decide +kernel)
set_option maxRecDepth 20000 in
theorem gL_law_X9_add : GoodIn wsL_law (wsV RL 51 RX9 yX9_add wsX9_add) := goodIn_app (goodIn_of _ (by decide +kernel)) ggL_law_X9_add
set_option maxRecDepth 20000 in
theorem ggL_law_X8_remove : GoodIn wsL_law wsX8_remove := goodIn_r _ [417, 28, 36, 178, 418, 419, 420, 27, 421, 72, 71, 247, 422, 423, 424, 425, 248, 197, 198, 199, 70, 200, 201, 366, 367, 368, 369, 266, 267, 268, 269, 270, 271, 272, 273, 370, 371, 372, 373, 78, 262, 263, 264, 265, 274, 275, 276, 277, 278, 279, 280, 281, 282, 283, 284, 285, 286, 287, 288, 289, 290, 291, 292, 293, 294, 295, 296, 297, 298, 299, 77, 300, 214, 215, 216, 301, 302, 303, 304, 305, 306, 307, 308, 309, 310, 311, 312, 313, 314, 315, 316, 317, 318, 319, 320, 321, 322, 323, 324, 325, 326, 327, 812, 813, 814, 815, 816, 817, 818, 819, 820, 880, 881, 882, 883, 884, 885, 886, 887, 872, 873, 874, 875, 894, 895, 896, 897, 898, 899, 900, 888, 889, 890] (by decide +kernel) (by decide +kernel)
set_option maxRecDepth 20000 in
theorem gL_law_X8_remove : GoodIn wsL_law (wsV RL 52 RX8 yX8_remove wsX8_remove) := goodIn_app (goodIn_of _ (by decide +kernel)) ggL_law_X8_remove
set_option maxRecDepth 20000 in
theorem ggL_law_X9_remove : GoodIn wsL_law wsX9_remove := goodIn_r _ [429, 154, 389, 125, 126, 128, 394, 430, 431, 432, 5, 433, 821, 822, 823, 824, 825, 826, 827, 828, 829, 830, 831, 832, 833, 834, 835, 836, 837, 838, 839, 840, 841, 842, 843, 844, 845, 846, 847, 848, 849, 850, 851, 852] (by decide +kernel) (by decide +kernel)
set_option maxRecDepth 20000 in
theorem gL_law_X9_remove : GoodIn wsL_law (wsV RL 55 RX9 yX9_remove wsX9_remove) := goodIn_app (goodIn_of _ (by decide +kernel)) ggL_law_X9_remove
set_option maxRecDepth 20000 in
theorem ggL_law_L_mode : GoodIn wsL_law wsL_mode := goodIn_ca (goodIn_r _ [437, 438, 439, 440, 441, 2, 442, 443, 444, 39, 40, 20, 36, 178, 28, 236, 237, 238, 19, 239, 231, 55, 54, 445, 446, 447, 27, 448, 71, 72, 247, 196, 197, 198, 199, 70, 200, 201, 366, 367, 368, 369, 266, 267, 268, 269, 270, 271, 272, 273, 370, 371, 372, 373, 78, 284, 285, 286, 287, 278, 279, 288, 289, 290, 291, 292, 293, 294, 295, 296, 297, 298, 299, 77, 300, 214, 215, 216, 301, 302, 303, 304, 305, 306, 307, 308, 309, 310, 311, 312, 313, 314, 315, 316, 317, 318, 319, 320, 321, 322, 323, 324, 325, 326, 327, 281, 282, 283, 449, 450, 451, 452, 812, 813, 814, 815, 816, 817, 818, 819, 820, 880, 881, 882, 883, 884, 885, 886, 887, 860, 861, 862, 863, 864, 872, 873, 874, 875, 888, 889, 890] (by decide +kernel) (by decide +kernel)) (goodIn_sub (fun _ h => List.mem_append_left _ (List.mem_append_right _ h)) (by decide +kernel))
set_option maxRecDepth 20000 in
theorem gL_law_L_mode : GoodIn wsL_law (va_wsS RL 56 yL_mode wsL_mode) := goodIn_app (goodIn_of _ (by decide +kernel)) ggL_law_L_mode
set_option maxRecDepth 20000 in
theorem ggL_law_X9_mode : GoodIn wsL_law wsX9_mode := goodIn_r _ [456, 389, 404, 123, 390, 391, 392, 394, 457, 458, 459, 5, 460, 154, 821, 822, 823, 824, 825, 826, 827, 828, 829, 830, 831, 832, 833, 834, 835, 836, 837, 838, 839, 840, 841, 842, 843, 844, 845, 846, 847, 848, 849, 850, 851, 852] (by decide +kernel) (by decide +kernel)
set_option maxRecDepth 20000 in
theorem gL_law_X9_mode : GoodIn wsL_law (wsV RL 61 RX9 yX9_mode wsX9_mode) := goodIn_app (goodIn_of _ (by decide +kernel)) ggL_law_X9_mode
set_option maxRecDepth 20000 in
theorem ggL_law_X9_thrown : GoodIn wsL_law wsX9_thrown := goodIn_r _ [464, 154, 821, 822, 823, 824, 825, 826, 827, 828, 829, 830, 831, 832, 833, 834, 835, 836, 837, 838, 839, 840, 841, 842, 843, 844, 845, 846, 847, 848, 849, 850, 851, 852] (by decide +kernel) (by decide +kernel)
set_option maxRecDepth 20000 in
theorem gL_law_X9_thrown : GoodIn wsL_law (wsV RL 62 RX9 yX9_thrown wsX9_thrown) := goodIn_app (goodIn_of _ (by decide +kernel)) ggL_law_X9_thrown
set_option maxRecDepth 20000 in
theorem ggL_law_X8_tell : GoodIn wsL_law wsX8_tell := goodIn_r _ [468, 24, 469, 470, 471, 23, 472, 60, 61, 473, 62, 347, 348, 349, 350, 351, 352, 337, 474, 475, 476, 477, 345, 63, 64, 478, 479, 480, 2, 481, 28, 482, 483, 177, 36, 178, 484, 198, 199, 70, 200, 201, 485, 367, 368, 369, 266, 267, 268, 269, 270, 271, 272, 273, 370, 371, 372, 373, 78, 333, 334, 335, 336, 338, 339, 340, 325, 215, 326, 341, 342, 343, 344, 346, 353, 354, 355, 356, 357, 358, 359, 812, 813, 814, 815, 816, 817, 818, 819, 820, 865, 866, 867, 868, 869, 870, 871, 872, 873, 874, 875, 894, 895, 896, 897, 898, 899, 900, 880, 881, 882, 883, 884, 885, 886, 887, 888, 889, 890] (by decide +kernel) (by decide +kernel)
set_option maxRecDepth 20000 in
theorem gL_law_X8_tell : GoodIn wsL_law (wsV RL 65 RX8 yX8_tell wsX8_tell) := goodIn_app (goodIn_of _ (by decide +kernel)) ggL_law_X8_tell
set_option maxRecDepth 20000 in
theorem ggL_law_X9_tell : GoodIn wsL_law wsX9_tell := goodIn_r _ [489, 154, 490, 129, 130, 491, 131, 132, 133, 394, 492, 493, 5, 494, 821, 822, 823, 824, 825, 826, 827, 828, 829, 830, 831, 832, 833, 834, 835, 836, 837, 838, 839, 840, 841, 842, 843, 844, 845, 846, 847, 848, 849, 850, 851, 852] (by decide +kernel) (by decide +kernel)
set_option maxRecDepth 20000 in
theorem gL_law_X9_tell : GoodIn wsL_law (wsV RL 69 RX9 yX9_tell wsX9_tell) := goodIn_app (goodIn_of _ (by decide +kernel)) ggL_law_X9_tell
set_option maxRecDepth 20000 in
theorem ggL_law_X8_exchange : GoodIn wsL_law wsX8_exchange := goodIn_r _ [498, 24, 499, 500, 501, 502, 23, 503, 473, 62, 347, 348, 349, 350, 351, 352, 337, 341, 342, 343, 344, 345, 63, 64, 60, 61, 346, 353, 354, 355, 356, 357, 358, 359, 504, 505, 506, 507, 478, 479, 480, 2, 481, 28, 482, 483, 177, 36, 178, 484, 198, 199, 70, 200, 201, 485, 367, 368, 369, 266, 267, 268, 269, 270, 271, 272, 273, 370, 371, 372, 373, 78, 333, 334, 335, 336, 338, 339, 340, 325, 215, 326, 812, 813, 814, 815, 816, 817, 818, 819, 820, 865, 866, 867, 868, 869, 870, 871, 872, 873, 874, 875, 894, 895, 896, 897, 898, 899, 900, 880, 881, 882, 883, 884, 885, 886, 887, 888, 889, 890] (by decide +kernel) (by decide +kernel)
set_option maxRecDepth 20000 in
theorem gL_law_X8_exchange : GoodIn wsL_law (wsV RL 70 RX8 yX8_exchange wsX8_exchange) := goodIn_app (goodIn_of _ (by decide +kernel)) ggL_law_X8_exchange
set_option maxRecDepth 20000 in
theorem ggL_law_X9_exchange : GoodIn wsL_law wsX9_exchange := goodIn_r _ [511, 154, 490, 491, 131, 132, 133, 394, 492, 493, 5, 494, 821, 822, 823, 824, 825, 826, 827, 828, 829, 830, 831, 832, 833, 834, 835, 836, 837, 838, 839, 840, 841, 842, 843, 844, 845, 846, 847, 848, 849, 850, 851, 852] (by decide +kernel) (by decide +kernel)
set_option maxRecDepth 20000 in
theorem gL_law_X9_exchange : GoodIn wsL_law (wsV RL 73 RX9 yX9_exchange wsX9_exchange) := goodIn_app (goodIn_of _ (by decide +kernel)) ggL_law_X9_exchange
set_option maxRecDepth 20000 in
theorem ggL_law_X8_image : GoodIn wsL_law wsX8_image := goodIn_r _ [515, 24, 516, 342, 343, 23, 344, 62, 345, 63, 64, 60, 61, 346, 347, 348, 349, 350, 351, 352, 337, 353, 354, 355, 356, 357, 358, 359, 812, 813, 814, 815, 816, 817, 818, 819, 820, 865, 866, 867, 868, 869, 870, 871] (by decide +kernel) (by decide +kernel)
set_option maxRecDepth 20000 in
theorem gL_law_X8_image : GoodIn wsL_law (wsV RL 74 RX8 yX8_image wsX8_image) := goodIn_app (goodIn_of _ (by decide +kernel)) ggL_law_X8_image
set_option maxRecDepth 20000 in
theorem ggL_law_X9_image : GoodIn wsL_law wsX9_image := goodIn_r _ [520, 154, 490, 492, 493, 5, 494, 521, 522, 523, 524, 491, 131, 132, 133, 129, 130, 525, 821, 822, 823, 824, 825, 826, 827, 828, 829, 830, 831, 832, 833, 834, 835, 836, 837, 838, 839, 840, 841, 842, 843, 844, 845, 846, 847, 848, 849, 850, 851, 852] (by decide +kernel) (by decide +kernel)
set_option maxRecDepth 20000 in
theorem gL_law_X9_image : GoodIn wsL_law (wsV RL 77 RX9 yX9_image wsX9_image) := goodIn_app (goodIn_of _ (by decide +kernel)) ggL_law_X9_image
set_option maxRecDepth 20000 in
theorem ggL_law_X8_bands : GoodIn wsL_law wsX8_bands := goodIn_r _ [529, 32, 36, 178, 530, 531, 532, 31, 533, 92, 93, 812, 813, 814, 815, 816, 817, 818, 819, 820, 880, 881, 882, 883, 884, 885, 886, 887, 876, 877, 878, 879] (by decide +kernel) (by decide +kernel)
set_option maxRecDepth 20000 in
theorem gL_law_X8_bands : GoodIn wsL_law (wsV RL 78 RX8 yX8_bands wsX8_bands) := goodIn_app (goodIn_of _ (by decide +kernel)) ggL_law_X8_bands
set_option maxRecDepth 20000 in
theorem ggL_law_X9_bands : GoodIn wsL_law wsX9_bands := goodIn_r _ [537, 154, 135, 136, 821, 822, 823, 824, 825, 826, 827, 828, 829, 830, 831, 832, 833, 834, 835, 836, 837, 838, 839, 840, 841, 842, 843, 844, 845, 846, 847, 848, 849, 850, 851, 852] (by decide +kernel) (by decide +kernel)
set_option maxRecDepth 20000 in
theorem gL_law_X9_bands : GoodIn wsL_law (wsV RL 82 RX9 yX9_bands wsX9_bands) := goodIn_app (goodIn_of _ (by decide +kernel)) ggL_law_X9_bands
set_option maxRecDepth 20000 in
theorem ggL_law_X8_threshold : GoodIn wsL_law wsX8_threshold := goodIn_r _ [541, 32, 36, 178, 542, 543, 544, 31, 545, 94, 95, 812, 813, 814, 815, 816, 817, 818, 819, 820, 880, 881, 882, 883, 884, 885, 886, 887, 876, 877, 878, 879] (by decide +kernel) (by decide +kernel)
set_option maxRecDepth 20000 in
theorem gL_law_X8_threshold : GoodIn wsL_law (wsV RL 83 RX8 yX8_threshold wsX8_threshold) := goodIn_app (goodIn_of _ (by decide +kernel)) ggL_law_X8_threshold
set_option maxRecDepth 20000 in
theorem ggL_law_X9_threshold : GoodIn wsL_law wsX9_threshold := goodIn_r _ [549, 154, 137, 138, 821, 822, 823, 824, 825, 826, 827, 828, 829, 830, 831, 832, 833, 834, 835, 836, 837, 838, 839, 840, 841, 842, 843, 844, 845, 846, 847, 848, 849, 850, 851, 852] (by decide +kernel) (by decide +kernel)
set_option maxRecDepth 20000 in
theorem gL_law_X9_threshold : GoodIn wsL_law (wsV RL 86 RX9 yX9_threshold wsX9_threshold) := goodIn_app (goodIn_of _ (by decide +kernel)) ggL_law_X9_threshold
set_option maxRecDepth 20000 in
theorem ggL_law_L_documentN : GoodIn wsL_law wsL_documentN := goodIn_ca (goodIn_r _ [552, 553, 554, 555, 556, 2, 557, 558, 559, 28, 482, 483, 560, 36, 32, 561, 423, 424, 27, 425, 71, 247, 248, 197, 198, 199, 70, 200, 201, 366, 367, 368, 369, 266, 267, 268, 269, 270, 271, 272, 273, 370, 371, 372, 373, 78, 485, 562, 563, 564, 35, 565, 566, 567, 568, 107, 106, 569, 570, 571, 572, 573, 325, 215, 326, 102, 574, 103, 104, 575, 105, 576, 577, 578, 579, 580, 581, 582, 583, 584, 31, 585, 586, 92, 93, 587, 588, 589, 590, 591, 592, 593, 594, 101, 595, 596, 111, 112, 597, 598, 599, 600, 95, 94, 601, 602, 603, 604, 605, 606, 607, 608, 609, 610, 611, 612, 613, 614, 615, 214, 216, 616, 617, 618, 619, 620, 621, 622, 623, 624, 625, 626, 627, 812, 813, 814, 815, 816, 817, 818, 819, 820, 872, 873, 874, 875, 894, 895, 896, 897, 898, 899, 900, 888, 889, 890, 880, 881, 882, 883, 884, 885, 886, 887, 891, 892, 893, 876, 877, 878, 879] (by decide +kernel) (by decide +kernel)) (goodIn_sub (fun _ h => List.mem_append_right _ h) (by decide +kernel))
set_option maxRecDepth 20000 in
theorem gL_law_L_documentN : GoodIn wsL_law (va_wsS RL 87 yL_document wsL_documentN) := goodIn_app (goodIn_of _ (by decide +kernel)) ggL_law_L_documentN
set_option maxRecDepth 20000 in
theorem ggL_law_X9_document : GoodIn wsL_law wsX9_document := goodIn_r _ [631, 126, 389, 125, 139, 430, 431, 432, 5, 433, 457, 458, 459, 460, 154, 632, 633, 634, 635, 138, 137, 636, 637, 638, 639, 135, 136, 134, 640, 641, 642, 643, 394, 491, 131, 644, 128, 129, 130, 525, 521, 522, 523, 524, 132, 133, 645, 646, 647, 648, 649, 650, 651, 652, 653, 654, 655, 656, 821, 822, 823, 824, 825, 826, 827, 828, 829, 830, 831, 832, 833, 834, 835, 836, 837, 838, 839, 840, 841, 842, 843, 844, 845, 846, 847, 848, 849, 850, 851, 852] (by decide +kernel) (by decide +kernel)
set_option maxRecDepth 20000 in
theorem gL_law_X9_document : GoodIn wsL_law (wsV RL 89 RX9 yX9_document wsX9_document) := goodIn_app (goodIn_of _ (by decide +kernel)) ggL_law_X9_document
set_option maxRecDepth 20000 in
theorem ggL_law_L_shingleN : GoodIn wsL_law wsL_shingleN := goodIn_ca (goodIn_r _ [659, 553, 660, 661, 662, 2, 663, 560, 664, 665, 666, 667, 668, 558, 559, 28, 482, 483, 561, 423, 424, 27, 425, 71, 247, 248, 197, 198, 199, 70, 200, 201, 366, 367, 368, 369, 266, 267, 268, 269, 270, 271, 272, 273, 370, 371, 372, 373, 78, 485, 894, 895, 896, 897, 898, 899, 900, 812, 813, 814, 815, 816, 817, 818, 819, 820, 872, 873, 874, 875, 888, 889, 890] (by decide +kernel) (by decide +kernel)) (goodIn_sub (fun _ h => List.mem_append_right _ h) (by decide +kernel))
set_option maxRecDepth 20000 in
theorem gL_law_L_shingleN : GoodIn wsL_law (va_wsS RL 90 yL_shingle wsL_shingleN) := goodIn_app (goodIn_of _ (by decide +kernel)) ggL_law_L_shingleN
set_option maxRecDepth 20000 in
theorem ggL_law_X9_shingle : GoodIn wsL_law wsX9_shingle := goodIn_r _ [672, 126, 128, 430, 431, 432, 5, 433, 389, 125, 457, 458, 459, 460, 154, 821, 822, 823, 824, 825, 826, 827, 828, 829, 830, 831, 832, 833, 834, 835, 836, 837, 838, 839, 840, 841, 842, 843, 844, 845, 846, 847, 848, 849, 850, 851, 852] (by decide +kernel) (by decide +kernel)
set_option maxRecDepth 20000 in
theorem gL_law_X9_shingle : GoodIn wsL_law (wsV RL 92 RX9 yX9_shingle wsX9_shingle) := goodIn_app (goodIn_of _ (by decide +kernel)) ggL_law_X9_shingle
set_option maxRecDepth 20000 in
theorem ggL_law_X8_letter : GoodIn wsL_law wsX8_letter := goodIn_r _ [676, 20, 677, 678, 679, 19, 680, 231, 53, 52, 812, 813, 814, 815, 816, 817, 818, 819, 820, 860, 861, 862, 863, 864] (by decide +kernel) (by decide +kernel)
set_option maxRecDepth 20000 in
theorem gL_law_X8_letter : GoodIn wsL_law (wsV RL 93 RX8 yX8_letter wsX8_letter) := goodIn_app (goodIn_of _ (by decide +kernel)) ggL_law_X8_letter
set_option maxRecDepth 20000 in
theorem ggL_law_X9_letter : GoodIn wsL_law wsX9_letter := goodIn_r _ [684, 154, 391, 122, 120, 121, 821, 822, 823, 824, 825, 826, 827, 828, 829, 830, 831, 832, 833, 834, 835, 836, 837, 838, 839, 840, 841, 842, 843, 844, 845, 846, 847, 848, 849, 850, 851, 852] (by decide +kernel) (by decide +kernel)
set_option maxRecDepth 20000 in
theorem gL_law_X9_letter : GoodIn wsL_law (wsV RL 96 RX9 yX9_letter wsX9_letter) := goodIn_app (goodIn_of _ (by decide +kernel)) ggL_law_X9_letter
set_option maxRecDepth 20000 in
theorem ggL_law_L_signatureN : GoodIn wsL_law wsL_signatureN := goodIn_ca (goodIn_r _ [687, 553, 688, 689, 690, 2, 691, 558, 559, 177, 665, 666, 667, 668, 28, 482, 483, 561, 423, 424, 27, 425, 71, 247, 248, 197, 198, 199, 70, 200, 201, 366, 367, 368, 369, 266, 267, 268, 269, 270, 271, 272, 273, 370, 371, 372, 373, 78, 485, 894, 895, 896, 897, 898, 899, 900, 812, 813, 814, 815, 816, 817, 818, 819, 820, 872, 873, 874, 875, 888, 889, 890] (by decide +kernel) (by decide +kernel)) (goodIn_sub (fun _ h => List.mem_append_right _ h) (by decide +kernel))
set_option maxRecDepth 20000 in
theorem gL_law_L_signatureN : GoodIn wsL_law (va_wsS RL 97 yL_signature wsL_signatureN) := goodIn_app (goodIn_of _ (by decide +kernel)) ggL_law_L_signatureN
set_option maxRecDepth 20000 in
theorem ggL_law_X9_signature : GoodIn wsL_law wsX9_signature := goodIn_r _ [695, 134, 430, 431, 432, 5, 433, 389, 125, 492, 493, 494, 457, 458, 459, 460, 154, 640, 641, 642, 643, 394, 491, 131, 644, 126, 128, 129, 130, 525, 521, 522, 523, 524, 132, 133, 821, 822, 823, 824, 825, 826, 827, 828, 829, 830, 831, 832, 833, 834, 835, 836, 837, 838, 839, 840, 841, 842, 843, 844, 845, 846, 847, 848, 849, 850, 851, 852] (by decide +kernel) (by decide +kernel)
set_option maxRecDepth 20000 in
theorem gL_law_X9_signature : GoodIn wsL_law (wsV RL 99 RX9 yX9_signature wsX9_signature) := goodIn_app (goodIn_of _ (by decide +kernel)) ggL_law_X9_signature
set_option maxRecDepth 20000 in
theorem ggL_law_L_bothN : GoodIn wsL_law wsL_bothN := goodIn_ca (goodIn_r _ [698, 553, 699, 700, 701, 2, 702, 558, 559, 32, 665, 666, 667, 668, 28, 482, 483, 561, 423, 424, 27, 425, 71, 247, 248, 197, 198, 199, 70, 200, 201, 366, 367, 368, 369, 266, 267, 268, 269, 270, 271, 272, 273, 370, 371, 372, 373, 78, 485, 703, 602, 603, 31, 604, 605, 606, 704, 608, 609, 610, 586, 601, 705, 706, 707, 708, 92, 93, 591, 709, 583, 584, 585, 587, 588, 589, 590, 710, 711, 712, 713, 714, 715, 598, 599, 600, 95, 94, 607, 812, 813, 814, 815, 816, 817, 818, 819, 820, 872, 873, 874, 875, 894, 895, 896, 897, 898, 899, 900, 888, 889, 890, 876, 877, 878, 879] (by decide +kernel) (by decide +kernel)) (goodIn_sub (fun _ h => List.mem_append_right _ h) (by decide +kernel))
set_option maxRecDepth 20000 in
theorem gL_law_L_bothN : GoodIn wsL_law (va_wsS RL 100 yL_both wsL_bothN) := goodIn_app (goodIn_of _ (by decide +kernel)) ggL_law_L_bothN
set_option maxRecDepth 20000 in
theorem ggL_law_X9_both : GoodIn wsL_law wsX9_both := goodIn_r _ [719, 126, 135, 136, 134, 430, 431, 432, 5, 433, 389, 125, 457, 458, 459, 460, 154, 645, 646, 647, 648, 128, 636, 637, 638, 639, 640, 641, 642, 643, 394, 491, 131, 644, 129, 130, 525, 521, 522, 523, 524, 132, 133, 632, 633, 634, 635, 138, 137, 821, 822, 823, 824, 825, 826, 827, 828, 829, 830, 831, 832, 833, 834, 835, 836, 837, 838, 839, 840, 841, 842, 843, 844, 845, 846, 847, 848, 849, 850, 851, 852] (by decide +kernel) (by decide +kernel)
set_option maxRecDepth 20000 in
theorem gL_law_X9_both : GoodIn wsL_law (wsV RL 103 RX9 yX9_both wsX9_both) := goodIn_app (goodIn_of _ (by decide +kernel)) ggL_law_X9_both
set_option maxRecDepth 20000 in
theorem ggL_law_X8_pairs : GoodIn wsL_law wsX8_pairs := goodIn_r _ [723, 36, 28, 482, 32, 724, 725, 726, 562, 563, 564, 35, 565, 566, 567, 568, 107, 106, 569, 570, 571, 572, 573, 325, 215, 326, 102, 574, 103, 104, 575, 105, 576, 198, 199, 70, 200, 201, 577, 367, 368, 369, 266, 267, 268, 269, 270, 271, 272, 273, 370, 371, 372, 373, 78, 578, 579, 580, 581, 582, 583, 584, 31, 585, 586, 92, 93, 587, 588, 589, 590, 591, 592, 593, 594, 101, 595, 596, 111, 112, 597, 598, 599, 600, 95, 94, 601, 602, 603, 604, 605, 606, 607, 608, 609, 610, 611, 612, 613, 614, 615, 214, 216, 727, 728, 729, 730, 812, 813, 814, 815, 816, 817, 818, 819, 820, 872, 873, 874, 875, 880, 881, 882, 883, 884, 885, 886, 887, 891, 892, 893, 894, 895, 896, 897, 898, 899, 900, 888, 889, 890, 876, 877, 878, 879] (by decide +kernel) (by decide +kernel)
set_option maxRecDepth 20000 in
theorem gL_law_X8_pairs : GoodIn wsL_law (wsV RL 104 RX8 yX8_pairs wsX8_pairs) := goodIn_app (goodIn_of _ (by decide +kernel)) ggL_law_X8_pairs
set_option maxRecDepth 20000 in
theorem ggL_law_X9_pairs : GoodIn wsL_law wsX9_pairs := goodIn_r _ [734, 154, 389, 649, 650, 651, 5, 652, 139, 632, 633, 634, 635, 138, 126, 137, 636, 637, 638, 639, 135, 136, 134, 640, 641, 642, 643, 394, 491, 131, 644, 128, 129, 130, 525, 521, 522, 523, 524, 132, 133, 645, 646, 647, 648, 735, 736, 737, 738, 653, 654, 655, 656, 739, 740, 741, 742, 821, 822, 823, 824, 825, 826, 827, 828, 829, 830, 831, 832, 833, 834, 835, 836, 837, 838, 839, 840, 841, 842, 843, 844, 845, 846, 847, 848, 849, 850, 851, 852] (by decide +kernel) (by decide +kernel)
set_option maxRecDepth 20000 in
theorem gL_law_X9_pairs : GoodIn wsL_law (wsV RL 108 RX9 yX9_pairs wsX9_pairs) := goodIn_app (goodIn_of _ (by decide +kernel)) ggL_law_X9_pairs
set_option maxRecDepth 20000 in
theorem ggL_law_X8_pair : GoodIn wsL_law wsX8_pair := goodIn_r _ [746, 36, 28, 482, 32, 724, 726, 562, 563, 564, 35, 565, 566, 567, 568, 107, 106, 569, 570, 571, 572, 573, 325, 215, 326, 102, 574, 103, 104, 575, 105, 576, 198, 199, 70, 200, 201, 577, 367, 368, 369, 266, 267, 268, 269, 270, 271, 272, 273, 370, 371, 372, 373, 78, 578, 579, 580, 581, 582, 583, 584, 31, 585, 586, 92, 93, 587, 588, 589, 590, 591, 592, 593, 594, 101, 595, 596, 111, 112, 597, 598, 599, 600, 95, 94, 601, 602, 603, 604, 605, 606, 607, 608, 609, 610, 611, 612, 613, 614, 615, 214, 216, 747, 748, 749, 750, 751, 752, 753, 754, 812, 813, 814, 815, 816, 817, 818, 819, 820, 872, 873, 874, 875, 880, 881, 882, 883, 884, 885, 886, 887, 891, 892, 893, 894, 895, 896, 897, 898, 899, 900, 888, 889, 890, 876, 877, 878, 879] (by decide +kernel) (by decide +kernel)
set_option maxRecDepth 20000 in
theorem gL_law_X8_pair : GoodIn wsL_law (wsV RL 109 RX8 yX8_pair wsX8_pair) := goodIn_app (goodIn_of _ (by decide +kernel)) ggL_law_X8_pair
set_option maxRecDepth 20000 in
theorem ggL_law_X9_pair : GoodIn wsL_law wsX9_pair := goodIn_r _ [758, 154, 389, 125, 649, 650, 651, 5, 652, 139, 632, 633, 634, 635, 138, 126, 137, 636, 637, 638, 639, 135, 136, 134, 640, 641, 642, 643, 394, 491, 131, 644, 128, 129, 130, 525, 521, 522, 523, 524, 132, 133, 645, 646, 647, 648, 735, 736, 737, 738, 653, 654, 655, 656, 739, 740, 741, 742, 821, 822, 823, 824, 825, 826, 827, 828, 829, 830, 831, 832, 833, 834, 835, 836, 837, 838, 839, 840, 841, 842, 843, 844, 845, 846, 847, 848, 849, 850, 851, 852] (by decide +kernel) (by decide +kernel)
set_option maxRecDepth 20000 in
theorem gL_law_X9_pair : GoodIn wsL_law (wsV RL 112 RX9 yX9_pair wsX9_pair) := goodIn_app (goodIn_of _ (by decide +kernel)) ggL_law_X9_pair
set_option maxRecDepth 20000 in
theorem ggL_law_L_nearestN : GoodIn wsL_law wsL_nearestN := goodIn_ca (goodIn_r _ [761, 553, 762, 763, 764, 2, 765, 28, 32, 483, 179, 665, 666, 667, 668, 558, 559, 482, 561, 423, 424, 27, 425, 71, 247, 248, 197, 198, 199, 70, 200, 201, 366, 367, 368, 369, 266, 267, 268, 269, 270, 271, 272, 273, 370, 371, 372, 373, 78, 485, 766, 767, 768, 769, 73, 449, 450, 451, 452, 278, 279, 770, 771, 772, 773, 774, 775, 776, 31, 777, 778, 214, 215, 216, 601, 602, 603, 604, 605, 606, 607, 608, 609, 610, 586, 779, 780, 781, 782, 280, 281, 282, 283, 783, 784, 785, 786, 292, 293, 294, 295, 296, 297, 298, 299, 77, 300, 301, 302, 303, 304, 305, 306, 307, 308, 309, 310, 311, 312, 313, 314, 315, 316, 317, 318, 319, 320, 321, 322, 323, 324, 325, 326, 327, 484, 812, 813, 814, 815, 816, 817, 818, 819, 820, 894, 895, 896, 897, 898, 899, 900, 872, 873, 874, 875, 888, 889, 890] (by decide +kernel) (by decide +kernel)) (goodIn_sub (fun _ h => List.mem_append_right _ h) (by decide +kernel))
set_option maxRecDepth 20000 in
theorem gL_law_L_nearestN : GoodIn wsL_law (va_wsS RL 113 yL_nearest wsL_nearestN) := goodIn_app (goodIn_of _ (by decide +kernel)) ggL_law_L_nearestN
set_option maxRecDepth 20000 in
theorem ggL_law_X9_nearest : GoodIn wsL_law wsX9_nearest := goodIn_r _ [790, 389, 125, 430, 431, 432, 5, 433, 457, 458, 459, 460, 154, 791, 792, 793, 794, 126, 645, 646, 647, 648, 128, 821, 822, 823, 824, 825, 826, 827, 828, 829, 830, 831, 832, 833, 834, 835, 836, 837, 838, 839, 840, 841, 842, 843, 844, 845, 846, 847, 848, 849, 850, 851, 852] (by decide +kernel) (by decide +kernel)
set_option maxRecDepth 20000 in
theorem gL_law_X9_nearest : GoodIn wsL_law (wsV RL 115 RX9 yX9_nearest wsX9_nearest) := goodIn_app (goodIn_of _ (by decide +kernel)) ggL_law_X9_nearest
set_option maxRecDepth 20000 in
theorem ggL_law_X8_count : GoodIn wsL_law wsX8_count := goodIn_r _ [798, 16, 144, 28, 482, 799, 20, 176, 24, 499, 32, 800, 801, 802, 803, 39, 40, 180, 181, 182, 15, 183, 184, 149, 45, 185, 186, 187, 188, 189, 190, 191, 46, 484, 198, 199, 70, 200, 201, 804, 805, 806, 19, 807, 53, 231, 812, 813, 814, 815, 816, 817, 818, 819, 820, 853, 854, 855, 856, 857, 858, 859, 872, 873, 874, 875, 860, 861, 862, 863, 864, 865, 866, 867, 868, 869, 870, 871, 876, 877, 878, 879, 888, 889, 890] (by decide +kernel) (by decide +kernel)
set_option maxRecDepth 20000 in
theorem gL_law_X8_count : GoodIn wsL_law (wsV RL 116 RX8 yX8_count wsX8_count) := goodIn_app (goodIn_of _ (by decide +kernel)) ggL_law_X8_count
set_option maxRecDepth 20000 in
theorem ggL_law_X9_count : GoodIn wsL_law wsX9_count := goodIn_r _ [811, 154, 155, 399, 389, 390, 391, 392, 491, 135, 136, 137, 138, 404, 123, 395, 396, 397, 5, 398, 117, 118, 821, 822, 823, 824, 825, 826, 827, 828, 829, 830, 831, 832, 833, 834, 835, 836, 837, 838, 839, 840, 841, 842, 843, 844, 845, 846, 847, 848, 849, 850, 851, 852] (by decide +kernel) (by decide +kernel)
set_option maxRecDepth 20000 in
theorem gL_law_X9_count : GoodIn wsL_law (wsV RL 119 RX9 yX9_count wsX9_count) := goodIn_app (goodIn_of _ (by decide +kernel)) ggL_law_X9_count
