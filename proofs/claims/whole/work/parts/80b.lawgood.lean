/-! ===== the methods' words among the law's ===== -/
set_option maxRecDepth 20000 in
theorem ggL_law_X6_init : GoodIn wsL_law wsX6_init := goodIn_r _ [8, 9, 10, 11, 12, 13, 14, 15, 16, 17, 18, 19, 20, 21, 22, 23, 24, 25, 26, 27, 28, 29, 30, 31, 32, 33, 34, 35, 36, 37, 38, 39, 40, 41, 42, 43, 44, 45, 46, 47, 48, 49, 50, 51, 52, 53, 54, 55, 56, 57, 58, 59, 60, 61, 62, 63, 64, 65, 66, 67, 68, 69, 70, 71, 72, 73, 74, 75, 76, 77, 78, 79, 80, 81, 82, 83, 84, 85, 86, 87, 88, 89, 90, 91, 92, 93, 94, 95, 812, 813, 814, 815, 816, 817, 818, 819, 820, 821, 822, 823, 824, 825, 826, 827, 828, 793, 794, 795, 796, 797, 829, 830, 831, 832, 833, 834, 835, 836, 837, 838, 839, 840, 841, 842, 843, 844, 845, 846, 847, 848, 849] (by decide +kernel) (by decide +kernel)
set_option maxRecDepth 20000 in
theorem gL_law_X6_init : GoodIn wsL_law (wsX6_init) := ggL_law_X6_init
set_option maxRecDepth 20000 in
theorem ggL_law_X7_init : GoodIn wsL_law wsX7_init := goodIn_r _ [98, 99, 10, 11, 37, 100, 101, 102, 103, 798, 799, 800, 801, 802, 803, 804, 805, 806, 807, 808, 809, 810, 811] (by decide +kernel) (by decide +kernel)
set_option maxRecDepth 20000 in
theorem gL_law_X7_init : GoodIn wsL_law (wsX7_init) := ggL_law_X7_init
set_option maxRecDepth 20000 in
theorem ggL_law_X6_read : GoodIn wsL_law wsX6_read := goodIn_r _ [107, 108, 19, 15, 109, 110, 2, 111, 112, 113, 114, 18, 115, 70, 69, 116, 117, 118, 119, 120, 121, 122, 123, 14, 124, 36, 38, 39, 40, 41, 42, 43, 44, 45, 46, 47, 48, 49, 50, 51, 52, 53, 125, 126, 127, 30, 128, 57, 58, 59, 60, 61, 62, 63, 129, 130, 131, 132, 133, 134, 135, 136, 137, 138, 139, 140, 141, 142, 143, 144, 145, 146, 147, 148, 149, 150, 151, 152, 153, 154, 155, 156, 157, 158, 159, 160, 161, 162, 163, 164, 165, 166, 167, 168, 169, 170, 171, 172, 173, 174, 175, 176, 793, 794, 795, 796, 797, 829, 830, 812, 813, 814, 815, 816, 817, 818, 819, 820, 821, 822, 823, 824, 825, 826, 827, 828, 836, 837, 838, 839, 840, 841, 842] (by decide +kernel) (by decide +kernel)
set_option maxRecDepth 20000 in
theorem gL_law_X6_read : GoodIn wsL_law (wsV RL 13 RX6 yX6_read wsX6_read) := goodIn_app (goodIn_of _ (by decide +kernel)) ggL_law_X6_read
set_option maxRecDepth 20000 in
theorem ggL_law_X7_read : GoodIn wsL_law wsX7_read := goodIn_r _ [180, 181, 182, 183, 5, 184, 101, 100, 185, 186, 187, 188, 189, 190, 191, 192, 193, 194, 195, 196, 197, 198, 199, 200, 201, 202, 203, 204, 205, 206, 207, 208, 209, 210, 211, 212, 213, 214, 215, 216, 217, 218, 219, 220, 221, 222, 223, 224, 225, 226, 227, 228, 229, 230, 102, 798, 799, 800, 801, 802, 803, 804, 805, 806, 807, 808, 809, 810, 811] (by decide +kernel) (by decide +kernel)
set_option maxRecDepth 20000 in
theorem gL_law_X7_read : GoodIn wsL_law (wsV RL 17 RX7 yX7_read wsX7_read) := goodIn_app (goodIn_of _ (by decide +kernel)) ggL_law_X7_read
set_option maxRecDepth 20000 in
theorem ggL_law_X6_write : GoodIn wsL_law wsX6_write := goodIn_r _ [234, 108, 19, 15, 109, 110, 2, 111, 235, 120, 121, 112, 113, 114, 18, 115, 70, 69, 116, 117, 118, 119, 122, 123, 14, 124, 36, 38, 39, 40, 41, 42, 43, 44, 45, 46, 47, 48, 49, 50, 51, 52, 53, 125, 126, 127, 30, 128, 57, 58, 59, 60, 61, 62, 63, 129, 130, 131, 132, 133, 134, 135, 136, 137, 138, 236, 237, 238, 239, 143, 144, 145, 146, 147, 148, 149, 150, 151, 152, 153, 154, 155, 156, 157, 158, 159, 160, 161, 162, 163, 164, 165, 166, 167, 168, 169, 170, 171, 172, 173, 174, 175, 176, 240, 241, 242, 243, 244, 245, 246, 247, 248, 249, 250, 251, 252, 253, 254, 255, 256, 257, 258, 259, 260, 261, 262, 263, 793, 794, 795, 796, 797, 829, 830, 812, 813, 814, 815, 816, 817, 818, 819, 820, 821, 822, 823, 824, 825, 826, 827, 828, 836, 837, 838, 839, 840, 841, 842] (by decide +kernel) (by decide +kernel)
set_option maxRecDepth 20000 in
theorem gL_law_X6_write : GoodIn wsL_law (wsV RL 18 RX6 yX6_write wsX6_write) := goodIn_app (goodIn_of _ (by decide +kernel)) ggL_law_X6_write
set_option maxRecDepth 20000 in
theorem ggL_law_X7_write : GoodIn wsL_law wsX7_write := goodIn_r _ [267, 181, 182, 183, 5, 184, 101, 100, 268, 269, 270, 271, 272, 189, 190, 191, 192, 193, 194, 195, 196, 197, 198, 199, 200, 201, 202, 203, 204, 205, 206, 207, 208, 209, 210, 211, 212, 213, 214, 215, 216, 217, 218, 219, 220, 221, 222, 223, 224, 273, 274, 275, 276, 277, 278, 279, 280, 281, 282, 283, 284, 225, 226, 227, 228, 229, 230, 102, 798, 799, 800, 801, 802, 803, 804, 805, 806, 807, 808, 809, 810, 811] (by decide +kernel) (by decide +kernel)
set_option maxRecDepth 20000 in
theorem gL_law_X7_write : GoodIn wsL_law (wsV RL 22 RX7 yX7_write wsX7_write) := goodIn_app (goodIn_of _ (by decide +kernel)) ggL_law_X7_write
set_option maxRecDepth 20000 in
theorem ggL_law_X6_flush : GoodIn wsL_law wsX6_flush := goodIn_r _ [288, 108, 15, 289, 290, 19, 291, 151, 2, 152, 112, 113, 114, 18, 115, 70, 69, 116, 117, 118, 119, 120, 121, 122, 123, 14, 124, 36, 38, 39, 40, 41, 42, 43, 44, 45, 46, 47, 48, 49, 50, 51, 52, 53, 125, 126, 127, 30, 128, 57, 58, 59, 60, 61, 62, 63, 129, 130, 131, 132, 133, 134, 135, 136, 137, 138, 292, 166, 167, 168, 169, 170, 171, 172, 110, 111, 293, 241, 242, 243, 244, 245, 246, 247, 248, 249, 250, 251, 252, 253, 254, 793, 794, 795, 796, 797, 812, 813, 814, 815, 816, 817, 818, 819, 820, 821, 822, 823, 824, 825, 826, 827, 828, 829, 830, 836, 837, 838, 839, 840, 841, 842] (by decide +kernel) (by decide +kernel)
set_option maxRecDepth 20000 in
theorem gL_law_X6_flush : GoodIn wsL_law (wsV RL 23 RX6 yX6_flush wsX6_flush) := goodIn_app (goodIn_of _ (by decide +kernel)) ggL_law_X6_flush
set_option maxRecDepth 20000 in
theorem ggL_law_X7_flush : GoodIn wsL_law wsX7_flush := goodIn_r _ [297, 181, 182, 183, 5, 184, 101, 100, 298, 299, 300, 301, 189, 302, 303, 304, 305, 306, 194, 195, 196, 213, 214, 215, 216, 217, 218, 219, 220, 205, 206, 207, 208, 273, 274, 275, 276, 225, 226, 227, 228, 229, 230, 102, 798, 799, 800, 801, 802, 803, 804, 805, 806, 807, 808, 809, 810, 811] (by decide +kernel) (by decide +kernel)
set_option maxRecDepth 20000 in
theorem gL_law_X7_flush : GoodIn wsL_law (wsV RL 26 RX7 yX7_flush wsX7_flush) := goodIn_app (goodIn_of _ (by decide +kernel)) ggL_law_X7_flush
set_option maxRecDepth 20000 in
theorem ggL_law_X6_tick : GoodIn wsL_law wsX6_tick := goodIn_r _ [310, 108, 19, 15, 235, 120, 2, 121, 112, 113, 114, 18, 115, 70, 69, 116, 117, 118, 119, 122, 123, 14, 124, 36, 38, 39, 40, 41, 42, 43, 44, 45, 46, 47, 48, 49, 50, 51, 52, 53, 125, 126, 127, 30, 128, 57, 58, 59, 60, 61, 62, 63, 129, 130, 131, 132, 133, 134, 135, 136, 137, 138, 311, 312, 313, 314, 315, 316, 317, 318, 263, 319, 320, 321, 322, 323, 324, 325, 326, 327, 328, 329, 330, 331, 332, 333, 334, 335, 336, 337, 338, 240, 241, 242, 243, 244, 245, 246, 247, 248, 249, 250, 251, 252, 253, 254, 255, 256, 257, 258, 259, 260, 261, 262, 339, 340, 341, 342, 161, 162, 163, 164, 165, 166, 167, 168, 151, 152, 169, 170, 171, 172, 110, 111, 793, 794, 795, 796, 797, 829, 830, 812, 813, 814, 815, 816, 817, 818, 819, 820, 821, 822, 823, 824, 825, 826, 827, 828, 836, 837, 838, 839, 840, 841, 842] (by decide +kernel) (by decide +kernel)
set_option maxRecDepth 20000 in
theorem gL_law_X6_tick : GoodIn wsL_law (wsV RL 27 RX6 yX6_tick wsX6_tick) := goodIn_app (goodIn_of _ (by decide +kernel)) ggL_law_X6_tick
set_option maxRecDepth 20000 in
theorem ggL_law_X7_tick : GoodIn wsL_law wsX7_tick := goodIn_r _ [346, 181, 182, 183, 5, 184, 101, 100, 347, 348, 349, 350, 351, 189, 194, 195, 196, 352, 353, 354, 355, 205, 206, 207, 208, 356, 357, 358, 359, 281, 282, 283, 284, 360, 361, 362, 363, 364, 365, 366, 367, 368, 369, 370, 371, 372, 373, 374, 375, 273, 274, 275, 276, 277, 278, 279, 280, 209, 210, 211, 212, 213, 214, 215, 216, 217, 218, 219, 220, 225, 226, 227, 228, 229, 230, 102, 798, 799, 800, 801, 802, 803, 804, 805, 806, 807, 808, 809, 810, 811] (by decide +kernel) (by decide +kernel)
set_option maxRecDepth 20000 in
theorem gL_law_X7_tick : GoodIn wsL_law (wsV RL 30 RX7 yX7_tick wsX7_tick) := goodIn_app (goodIn_of _ (by decide +kernel)) ggL_law_X7_tick
set_option maxRecDepth 20000 in
theorem ggL_law_X6_load : GoodIn wsL_law wsX6_load := goodIn_r _ [379, 108, 19, 15, 235, 120, 2, 121, 112, 113, 114, 18, 115, 70, 69, 116, 117, 118, 119, 122, 123, 14, 124, 36, 38, 39, 40, 41, 42, 43, 44, 45, 46, 47, 48, 49, 50, 51, 52, 53, 125, 126, 127, 30, 128, 57, 58, 59, 60, 61, 62, 63, 129, 130, 131, 132, 133, 134, 135, 136, 137, 138, 380, 381, 382, 383, 384, 324, 325, 326, 327, 328, 329, 334, 335, 336, 337, 338, 240, 241, 242, 243, 244, 245, 246, 247, 248, 249, 250, 251, 252, 253, 254, 255, 256, 257, 258, 259, 260, 261, 262, 263, 339, 340, 341, 342, 161, 162, 163, 164, 165, 166, 167, 168, 151, 152, 169, 170, 171, 172, 110, 111, 793, 794, 795, 796, 797, 829, 830, 812, 813, 814, 815, 816, 817, 818, 819, 820, 821, 822, 823, 824, 825, 826, 827, 828, 836, 837, 838, 839, 840, 841, 842] (by decide +kernel) (by decide +kernel)
set_option maxRecDepth 20000 in
theorem gL_law_X6_load : GoodIn wsL_law (wsV RL 31 RX6 yX6_load wsX6_load) := goodIn_app (goodIn_of _ (by decide +kernel)) ggL_law_X6_load
set_option maxRecDepth 20000 in
theorem ggL_law_X7_load : GoodIn wsL_law wsX7_load := goodIn_r _ [388, 181, 182, 183, 5, 184, 101, 100, 389, 390, 391, 392, 272, 189, 194, 195, 196, 360, 361, 362, 363, 372, 373, 374, 375, 273, 274, 275, 276, 277, 278, 279, 280, 281, 282, 283, 284, 209, 210, 211, 212, 213, 214, 215, 216, 217, 218, 219, 220, 205, 206, 207, 208, 225, 226, 227, 228, 229, 230, 102, 798, 799, 800, 801, 802, 803, 804, 805, 806, 807, 808, 809, 810, 811] (by decide +kernel) (by decide +kernel)
set_option maxRecDepth 20000 in
theorem gL_law_X7_load : GoodIn wsL_law (wsV RL 34 RX7 yX7_load wsX7_load) := goodIn_app (goodIn_of _ (by decide +kernel)) ggL_law_X7_load
set_option maxRecDepth 20000 in
theorem ggL_law_X6_learn : GoodIn wsL_law wsX6_learn := goodIn_r _ [396, 15, 397, 398, 290, 19, 112, 113, 114, 18, 115, 70, 69, 116, 117, 118, 119, 120, 2, 121, 122, 123, 14, 124, 36, 38, 39, 40, 41, 42, 43, 44, 45, 46, 47, 48, 49, 50, 51, 52, 53, 125, 126, 127, 30, 128, 57, 58, 59, 60, 61, 62, 63, 129, 130, 131, 132, 133, 134, 135, 136, 137, 138, 399, 400, 401, 402, 403, 334, 335, 336, 337, 338, 328, 329, 240, 241, 242, 243, 244, 245, 246, 247, 248, 249, 250, 251, 252, 253, 254, 255, 256, 257, 258, 259, 260, 261, 262, 263, 339, 340, 341, 342, 161, 162, 163, 164, 165, 166, 167, 168, 151, 152, 169, 170, 171, 172, 110, 111, 793, 794, 795, 796, 797, 812, 813, 814, 815, 816, 817, 818, 819, 820, 821, 822, 823, 824, 825, 826, 827, 828, 836, 837, 838, 839, 840, 841, 842, 829, 830] (by decide +kernel) (by decide +kernel)
set_option maxRecDepth 20000 in
theorem gL_law_X6_learn : GoodIn wsL_law (wsV RL 35 RX6 yX6_learn wsX6_learn) := goodIn_app (goodIn_of _ (by decide +kernel)) ggL_law_X6_learn
set_option maxRecDepth 20000 in
theorem ggL_law_X7_learn : GoodIn wsL_law wsX7_learn := goodIn_r _ [407, 181, 182, 183, 5, 184, 101, 100, 408, 409, 410, 411, 302, 372, 373, 374, 375, 273, 274, 275, 276, 277, 278, 279, 280, 281, 282, 283, 284, 209, 210, 211, 212, 213, 214, 215, 216, 217, 218, 219, 220, 205, 206, 207, 208, 225, 226, 227, 228, 229, 230, 102, 798, 799, 800, 801, 802, 803, 804, 805, 806, 807, 808, 809, 810, 811] (by decide +kernel) (by decide +kernel)
set_option maxRecDepth 20000 in
theorem gL_law_X7_learn : GoodIn wsL_law (wsV RL 39 RX7 yX7_learn wsX7_learn) := goodIn_app (goodIn_of _ (by decide +kernel)) ggL_law_X7_learn
set_option maxRecDepth 20000 in
theorem ggL_law_X6_cut : GoodIn wsL_law wsX6_cut := goodIn_r _ [415, 19, 15, 112, 113, 114, 18, 115, 70, 69, 116, 117, 118, 119, 120, 2, 121, 122, 123, 14, 124, 36, 38, 39, 40, 41, 42, 43, 44, 45, 46, 47, 48, 49, 50, 51, 52, 53, 125, 126, 127, 30, 128, 57, 58, 59, 60, 61, 62, 63, 129, 130, 131, 132, 133, 134, 135, 136, 137, 138, 416, 417, 418, 419, 420, 421, 422, 423, 424, 240, 241, 242, 243, 244, 245, 246, 247, 248, 249, 250, 251, 252, 253, 254, 425, 260, 261, 262, 263, 339, 340, 341, 342, 161, 162, 163, 164, 165, 166, 167, 168, 151, 152, 169, 170, 171, 172, 110, 111, 426, 427, 428, 429, 430, 431, 432, 433, 323, 324, 325, 326, 327, 328, 329, 793, 794, 795, 796, 797, 829, 830, 812, 813, 814, 815, 816, 817, 818, 819, 820, 821, 822, 823, 824, 825, 826, 827, 828, 836, 837, 838, 839, 840, 841, 842] (by decide +kernel) (by decide +kernel)
set_option maxRecDepth 20000 in
theorem gL_law_X6_cut : GoodIn wsL_law (wsV RL 40 RX6 yX6_cut wsX6_cut) := goodIn_app (goodIn_of _ (by decide +kernel)) ggL_law_X6_cut
set_option maxRecDepth 20000 in
theorem ggL_law_X7_cut : GoodIn wsL_law wsX7_cut := goodIn_r _ [437, 181, 182, 183, 5, 184, 101, 100, 438, 439, 440, 441, 281, 282, 283, 284, 273, 274, 275, 276, 209, 210, 211, 212, 213, 214, 215, 216, 217, 218, 219, 220, 205, 206, 207, 208, 225, 226, 227, 228, 229, 230, 102, 798, 799, 800, 801, 802, 803, 804, 805, 806, 807, 808, 809, 810, 811] (by decide +kernel) (by decide +kernel)
set_option maxRecDepth 20000 in
theorem gL_law_X7_cut : GoodIn wsL_law (wsV RL 43 RX7 yX7_cut wsX7_cut) := goodIn_app (goodIn_of _ (by decide +kernel)) ggL_law_X7_cut
set_option maxRecDepth 20000 in
theorem ggL_law_X6_set : GoodIn wsL_law wsX6_set := goodIn_r _ [445, 446, 447, 108, 19, 15, 397, 448, 449, 2, 450, 235, 120, 121, 112, 113, 114, 18, 115, 70, 69, 116, 117, 118, 119, 122, 123, 14, 124, 36, 38, 39, 40, 41, 42, 43, 44, 45, 46, 47, 48, 49, 50, 51, 52, 53, 125, 126, 127, 30, 128, 57, 58, 59, 60, 61, 62, 63, 129, 130, 131, 132, 133, 134, 135, 136, 137, 138, 451, 452, 453, 454, 455, 456, 457, 458, 793, 794, 795, 796, 797, 812, 813, 814, 815, 816, 817, 818, 819, 820, 821, 822, 823, 824, 825, 826, 827, 828, 829, 830, 836, 837, 838, 839, 840, 841, 842] (by decide +kernel) (by decide +kernel)
set_option maxRecDepth 20000 in
theorem gL_law_X6_set : GoodIn wsL_law (wsV RL 44 RX6 yX6_set wsX6_set) := goodIn_app (goodIn_of _ (by decide +kernel)) ggL_law_X6_set
set_option maxRecDepth 20000 in
theorem ggL_law_X7_set : GoodIn wsL_law wsX7_set := goodIn_r _ [462, 181, 182, 183, 5, 184, 101, 100, 463, 464, 465, 466, 467, 468, 189, 194, 195, 196, 225, 226, 227, 228, 229, 230, 102, 798, 799, 800, 801, 802, 803, 804, 805, 806, 807, 808, 809, 810, 811] (by decide +kernel) (by decide +kernel)
set_option maxRecDepth 20000 in
theorem gL_law_X7_set : GoodIn wsL_law (wsV RL 47 RX7 yX7_set wsX7_set) := goodIn_app (goodIn_of _ (by decide +kernel)) ggL_law_X7_set
set_option maxRecDepth 20000 in
theorem ggL_law_X6_lineOf : GoodIn wsL_law wsX6_lineOf := goodIn_r _ [472, 108, 15, 289, 473, 474, 475, 476, 291, 151, 2, 152, 235, 120, 121, 477, 478, 479, 14, 480, 40, 43, 793, 794, 795, 796, 797, 812, 813, 814, 815, 816, 817, 818, 819, 820, 821, 822, 823, 824, 825, 826, 827, 828] (by decide +kernel) (by decide +kernel)
set_option maxRecDepth 20000 in
theorem gL_law_X6_lineOf : GoodIn wsL_law (wsV RL 48 RX6 yX6_lineOf wsX6_lineOf) := goodIn_app (goodIn_of _ (by decide +kernel)) ggL_law_X6_lineOf
set_option maxRecDepth 20000 in
theorem ggL_law_X7_lineOf : GoodIn wsL_law wsX7_lineOf := goodIn_r _ [484, 485, 189, 100, 486, 303, 304, 5, 305, 306, 194, 195, 196, 487, 488, 489, 490, 798, 799, 800, 801, 802, 803, 804, 805, 806, 807, 808, 809, 810, 811] (by decide +kernel) (by decide +kernel)
set_option maxRecDepth 20000 in
theorem gL_law_X7_lineOf : GoodIn wsL_law (wsV RL 51 RX7 yX7_lineOf wsX7_lineOf) := goodIn_app (goodIn_of _ (by decide +kernel)) ggL_law_X7_lineOf
set_option maxRecDepth 20000 in
theorem ggL_law_X6_placeOf : GoodIn wsL_law wsX6_placeOf := goodIn_r _ [494, 108, 15, 495, 475, 473, 496, 109, 110, 2, 111, 235, 120, 121, 497, 148, 149, 14, 150, 40, 41, 291, 151, 152, 793, 794, 795, 796, 797, 812, 813, 814, 815, 816, 817, 818, 819, 820, 821, 822, 823, 824, 825, 826, 827, 828] (by decide +kernel) (by decide +kernel)
set_option maxRecDepth 20000 in
theorem gL_law_X6_placeOf : GoodIn wsL_law (wsV RL 52 RX6 yX6_placeOf wsX6_placeOf) := goodIn_app (goodIn_of _ (by decide +kernel)) ggL_law_X6_placeOf
set_option maxRecDepth 20000 in
theorem ggL_law_X7_placeOf : GoodIn wsL_law wsX7_placeOf := goodIn_r _ [501, 502, 189, 100, 486, 190, 191, 5, 192, 193, 194, 195, 196, 201, 202, 203, 204, 798, 799, 800, 801, 802, 803, 804, 805, 806, 807, 808, 809, 810, 811] (by decide +kernel) (by decide +kernel)
set_option maxRecDepth 20000 in
theorem gL_law_X7_placeOf : GoodIn wsL_law (wsV RL 55 RX7 yX7_placeOf wsX7_placeOf) := goodIn_app (goodIn_of _ (by decide +kernel)) ggL_law_X7_placeOf
set_option maxRecDepth 20000 in
theorem ggL_law_X6_battery : GoodIn wsL_law wsX6_battery := goodIn_r _ [506, 15, 397, 507, 508, 398, 108, 509, 331, 332, 30, 333, 58, 510, 256, 257, 258, 59, 259, 260, 261, 262, 57, 61, 60, 263, 132, 133, 134, 511, 421, 422, 14, 423, 36, 424, 240, 241, 242, 243, 244, 245, 246, 247, 40, 248, 249, 250, 251, 252, 253, 254, 425, 793, 794, 795, 796, 797, 812, 813, 814, 815, 816, 817, 818, 819, 820, 821, 822, 823, 824, 825, 826, 827, 828, 836, 837, 838, 839, 840, 841, 842] (by decide +kernel) (by decide +kernel)
set_option maxRecDepth 20000 in
theorem gL_law_X6_battery : GoodIn wsL_law (wsV RL 56 RX6 yX6_battery wsX6_battery) := goodIn_app (goodIn_of _ (by decide +kernel)) ggL_law_X6_battery
set_option maxRecDepth 20000 in
theorem ggL_law_X7_battery : GoodIn wsL_law wsX7_battery := goodIn_r _ [515, 100, 189, 368, 369, 370, 5, 371, 277, 278, 279, 280, 281, 282, 283, 284, 516, 517, 518, 519, 273, 274, 275, 276, 798, 799, 800, 801, 802, 803, 804, 805, 806, 807, 808, 809, 810, 811] (by decide +kernel) (by decide +kernel)
set_option maxRecDepth 20000 in
theorem gL_law_X7_battery : GoodIn wsL_law (wsV RL 59 RX7 yX7_battery wsX7_battery) := goodIn_app (goodIn_of _ (by decide +kernel)) ggL_law_X7_battery
set_option maxRecDepth 20000 in
theorem ggL_law_X6_lines : GoodIn wsL_law wsX6_lines := goodIn_r _ [523, 15, 108, 524, 245, 246, 14, 247, 40, 525, 526, 527, 528, 420, 421, 422, 423, 36, 424, 132, 133, 134, 240, 241, 242, 243, 244, 248, 249, 250, 251, 252, 253, 254, 425, 260, 261, 30, 262, 57, 61, 60, 263, 529, 478, 479, 480, 43, 151, 2, 152, 793, 794, 795, 796, 797, 812, 813, 814, 815, 816, 817, 818, 819, 820, 821, 822, 823, 824, 825, 826, 827, 828, 836, 837, 838, 839, 840, 841, 842] (by decide +kernel) (by decide +kernel)
set_option maxRecDepth 20000 in
theorem gL_law_X6_lines : GoodIn wsL_law (wsV RL 60 RX6 yX6_lines wsX6_lines) := goodIn_app (goodIn_of _ (by decide +kernel)) ggL_law_X6_lines
set_option maxRecDepth 20000 in
theorem ggL_law_X7_lines : GoodIn wsL_law wsX7_lines := goodIn_r _ [533, 502, 189, 194, 195, 5, 196, 534, 535, 536, 537, 100, 538, 539, 540, 541, 516, 517, 518, 519, 281, 282, 283, 284, 273, 274, 275, 276, 542, 543, 544, 545, 798, 799, 800, 801, 802, 803, 804, 805, 806, 807, 808, 809, 810, 811] (by decide +kernel) (by decide +kernel)
set_option maxRecDepth 20000 in
theorem gL_law_X7_lines : GoodIn wsL_law (wsV RL 63 RX7 yX7_lines wsX7_lines) := goodIn_app (goodIn_of _ (by decide +kernel)) ggL_law_X7_lines
set_option maxRecDepth 20000 in
theorem ggL_law_X6_wouldFlush : GoodIn wsL_law wsX6_wouldFlush := goodIn_r _ [549, 108, 31, 15, 397, 550, 328, 133, 329, 235, 120, 2, 121, 551, 126, 127, 30, 128, 57, 58, 59, 60, 61, 62, 63, 552, 324, 325, 326, 327, 293, 241, 242, 14, 243, 244, 245, 246, 247, 40, 248, 249, 250, 251, 252, 253, 254, 510, 256, 257, 258, 259, 260, 261, 262, 263, 132, 134, 793, 794, 795, 796, 797, 812, 813, 814, 815, 816, 817, 818, 819, 820, 821, 822, 823, 824, 825, 826, 827, 828, 836, 837, 838, 839, 840, 841, 842] (by decide +kernel) (by decide +kernel)
set_option maxRecDepth 20000 in
theorem gL_law_X6_wouldFlush : GoodIn wsL_law (wsV RL 64 RX6 yX6_wouldFlush wsX6_wouldFlush) := goodIn_app (goodIn_of _ (by decide +kernel)) ggL_law_X6_wouldFlush
set_option maxRecDepth 20000 in
theorem ggL_law_X7_wouldFlush : GoodIn wsL_law wsX7_wouldFlush := goodIn_r _ [556, 181, 182, 183, 5, 184, 101, 100, 389, 390, 391, 392, 272, 189, 194, 195, 196, 360, 361, 362, 363, 372, 373, 374, 375, 273, 274, 275, 276, 277, 278, 279, 280, 281, 282, 283, 284, 209, 210, 211, 212, 213, 214, 215, 216, 217, 218, 219, 220, 205, 206, 207, 208, 557, 558, 559, 560, 798, 799, 800, 801, 802, 803, 804, 805, 806, 807, 808, 809, 810, 811] (by decide +kernel) (by decide +kernel)
set_option maxRecDepth 20000 in
theorem gL_law_X7_wouldFlush : GoodIn wsL_law (wsV RL 67 RX7 yX7_wouldFlush wsX7_wouldFlush) := goodIn_app (goodIn_of _ (by decide +kernel)) ggL_law_X7_wouldFlush
set_option maxRecDepth 20000 in
theorem ggL_law_X6_critical : GoodIn wsL_law wsX6_critical := goodIn_r _ [564, 15, 397, 507, 550, 328, 133, 329, 473, 293, 241, 242, 14, 243, 244, 245, 246, 247, 40, 248, 249, 250, 251, 252, 253, 254, 565, 431, 432, 30, 433, 61, 60, 793, 794, 795, 796, 797, 812, 813, 814, 815, 816, 817, 818, 819, 820, 821, 822, 823, 824, 825, 826, 827, 828, 836, 837, 838, 839, 840, 841, 842] (by decide +kernel) (by decide +kernel)
set_option maxRecDepth 20000 in
theorem gL_law_X6_critical : GoodIn wsL_law (wsV RL 68 RX6 yX6_critical wsX6_critical) := goodIn_app (goodIn_of _ (by decide +kernel)) ggL_law_X6_critical
set_option maxRecDepth 20000 in
theorem ggL_law_X7_critical : GoodIn wsL_law wsX7_critical := goodIn_r _ [569, 486, 570, 554, 555, 5, 556, 181, 182, 183, 184, 101, 100, 389, 390, 391, 392, 272, 189, 194, 195, 196, 360, 361, 362, 363, 372, 373, 374, 375, 273, 274, 275, 276, 277, 278, 279, 280, 281, 282, 283, 284, 209, 210, 211, 212, 213, 214, 215, 216, 217, 218, 219, 220, 205, 206, 207, 208, 557, 558, 559, 560, 798, 799, 800, 801, 802, 803, 804, 805, 806, 807, 808, 809, 810, 811] (by decide +kernel) (by decide +kernel)
set_option maxRecDepth 20000 in
theorem gL_law_X7_critical : GoodIn wsL_law (wsV RL 71 RX7 yX7_critical wsX7_critical) := goodIn_app (goodIn_of _ (by decide +kernel)) ggL_law_X7_critical
set_option maxRecDepth 20000 in
theorem ggL_law_X6_ticksUntil : GoodIn wsL_law wsX6_ticksUntil := goodIn_r _ [574, 108, 31, 15, 397, 473, 235, 120, 2, 121, 551, 126, 127, 30, 128, 57, 58, 59, 60, 61, 62, 63, 510, 256, 257, 258, 259, 260, 261, 262, 263, 132, 133, 134, 575, 316, 317, 318, 319, 320, 321, 322, 323, 324, 325, 326, 327, 328, 329, 330, 331, 332, 333, 793, 794, 795, 796, 797, 812, 813, 814, 815, 816, 817, 818, 819, 820, 821, 822, 823, 824, 825, 826, 827, 828, 836, 837, 838, 839, 840, 841, 842] (by decide +kernel) (by decide +kernel)
set_option maxRecDepth 20000 in
theorem gL_law_X6_ticksUntil : GoodIn wsL_law (wsV RL 72 RX6 yX6_ticksUntil wsX6_ticksUntil) := goodIn_app (goodIn_of _ (by decide +kernel)) ggL_law_X6_ticksUntil
set_option maxRecDepth 20000 in
theorem ggL_law_X7_ticksUntil : GoodIn wsL_law wsX7_ticksUntil := goodIn_r _ [579, 580, 189, 486, 194, 195, 5, 196, 181, 182, 183, 184, 101, 100, 277, 278, 279, 280, 281, 282, 283, 284, 352, 353, 354, 355, 205, 206, 207, 208, 356, 357, 358, 359, 360, 361, 362, 363, 364, 365, 366, 367, 368, 369, 370, 371, 372, 373, 374, 375, 273, 274, 275, 276, 209, 210, 211, 212, 213, 214, 215, 216, 217, 218, 219, 220, 557, 558, 559, 560, 798, 799, 800, 801, 802, 803, 804, 805, 806, 807, 808, 809, 810, 811] (by decide +kernel) (by decide +kernel)
set_option maxRecDepth 20000 in
theorem gL_law_X7_ticksUntil : GoodIn wsL_law (wsV RL 75 RX7 yX7_ticksUntil wsX7_ticksUntil) := goodIn_app (goodIn_of _ (by decide +kernel)) ggL_law_X7_ticksUntil
set_option maxRecDepth 20000 in
theorem ggL_law_X6_pair : GoodIn wsL_law wsX6_pair := goodIn_r _ [584, 108, 15, 473, 235, 120, 2, 121, 585, 586, 587, 14, 588, 40, 43, 589, 590, 591, 592, 41, 593, 594, 133, 595, 424, 132, 134, 151, 152, 291, 596, 793, 794, 795, 796, 797, 812, 813, 814, 815, 816, 817, 818, 819, 820, 821, 822, 823, 824, 825, 826, 827, 828] (by decide +kernel) (by decide +kernel)
set_option maxRecDepth 20000 in
theorem gL_law_X6_pair : GoodIn wsL_law (wsV RL 76 RX6 yX6_pair wsX6_pair) := goodIn_app (goodIn_of _ (by decide +kernel)) ggL_law_X6_pair
set_option maxRecDepth 20000 in
theorem ggL_law_X7_pair : GoodIn wsL_law wsX7_pair := goodIn_r _ [600, 189, 486, 100, 194, 195, 5, 196, 273, 274, 275, 276, 601, 602, 603, 604, 605, 606, 607, 608, 798, 799, 800, 801, 802, 803, 804, 805, 806, 807, 808, 809, 810, 811] (by decide +kernel) (by decide +kernel)
set_option maxRecDepth 20000 in
theorem gL_law_X7_pair : GoodIn wsL_law (wsV RL 79 RX7 yX7_pair wsX7_pair) := goodIn_app (goodIn_of _ (by decide +kernel)) ggL_law_X7_pair
set_option maxRecDepth 20000 in
theorem ggL_law_X6_count : GoodIn wsL_law wsX6_count := goodIn_r _ [612, 15, 613, 614, 615, 616, 617, 618, 619, 620, 621, 19, 622, 23, 623, 397, 108, 448, 449, 2, 450, 451, 452, 453, 30, 454, 60, 61, 62, 63, 793, 794, 795, 796, 797, 812, 813, 814, 815, 816, 817, 818, 819, 820, 821, 822, 823, 824, 825, 826, 827, 828, 829, 830, 831, 832, 836, 837, 838, 839, 840, 841, 842] (by decide +kernel) (by decide +kernel)
set_option maxRecDepth 20000 in
theorem gL_law_X6_count : GoodIn wsL_law (wsV RL 80 RX6 yX6_count wsX6_count) := goodIn_app (goodIn_of _ (by decide +kernel)) ggL_law_X6_count
set_option maxRecDepth 20000 in
theorem ggL_law_X7_count : GoodIn wsL_law wsX7_count := goodIn_r _ [627, 580, 100, 230, 628, 629, 630, 189, 194, 195, 5, 196, 798, 799, 800, 801, 802, 803, 804, 805, 806, 807, 808, 809, 810, 811] (by decide +kernel) (by decide +kernel)
set_option maxRecDepth 20000 in
theorem gL_law_X7_count : GoodIn wsL_law (wsV RL 83 RX7 yX7_count wsX7_count) := goodIn_app (goodIn_of _ (by decide +kernel)) ggL_law_X7_count
set_option maxRecDepth 20000 in
theorem ggL_law_X6_undo : GoodIn wsL_law wsX6_undo := goodIn_r _ [634, 19, 622, 290, 15, 635, 636, 637, 18, 638, 70, 69, 120, 2, 121, 122, 123, 14, 124, 36, 38, 39, 40, 41, 42, 43, 44, 45, 46, 47, 48, 49, 50, 51, 52, 53, 125, 126, 127, 30, 128, 57, 58, 59, 60, 61, 62, 63, 129, 130, 131, 132, 133, 134, 135, 136, 137, 138, 793, 794, 795, 796, 797, 829, 830, 812, 813, 814, 815, 816, 817, 818, 819, 820, 821, 822, 823, 824, 825, 826, 827, 828, 836, 837, 838, 839, 840, 841, 842] (by decide +kernel) (by decide +kernel)
set_option maxRecDepth 20000 in
theorem gL_law_X6_undo : GoodIn wsL_law (wsV RL 84 RX6 yX6_undo wsX6_undo) := goodIn_app (goodIn_of _ (by decide +kernel)) ggL_law_X6_undo
set_option maxRecDepth 20000 in
theorem ggL_law_X7_undo : GoodIn wsL_law wsX7_undo := goodIn_r _ [642, 230, 302, 100, 102, 798, 799, 800, 801, 802, 803, 804, 805, 806, 807, 808, 809, 810, 811] (by decide +kernel) (by decide +kernel)
set_option maxRecDepth 20000 in
theorem gL_law_X7_undo : GoodIn wsL_law (wsV RL 87 RX7 yX7_undo wsX7_undo) := goodIn_app (goodIn_of _ (by decide +kernel)) ggL_law_X7_undo
set_option maxRecDepth 20000 in
theorem ggL_law_X6_type : GoodIn wsL_law wsX6_type := goodIn_r _ [646, 108, 23, 623, 647, 235, 120, 2, 121, 648, 649, 650, 22, 651, 75, 74, 793, 794, 795, 796, 797, 831, 832] (by decide +kernel) (by decide +kernel)
set_option maxRecDepth 20000 in
theorem gL_law_X6_type : GoodIn wsL_law (wsV RL 88 RX6 yX6_type wsX6_type) := goodIn_app (goodIn_of _ (by decide +kernel)) ggL_law_X6_type
set_option maxRecDepth 20000 in
theorem ggL_law_X7_type : GoodIn wsL_law wsX7_type := goodIn_r _ [655, 656, 657, 189, 628, 658, 103, 194, 195, 5, 196, 798, 799, 800, 801, 802, 803, 804, 805, 806, 807, 808, 809, 810, 811] (by decide +kernel) (by decide +kernel)
set_option maxRecDepth 20000 in
theorem gL_law_X7_type : GoodIn wsL_law (wsV RL 91 RX7 yX7_type wsX7_type) := goodIn_app (goodIn_of _ (by decide +kernel)) ggL_law_X7_type
set_option maxRecDepth 20000 in
theorem ggL_law_X6_clearText : GoodIn wsL_law wsX6_clearText := goodIn_r _ [662, 23, 623, 793, 794, 795, 796, 797, 831, 832] (by decide +kernel) (by decide +kernel)
set_option maxRecDepth 20000 in
theorem gL_law_X6_clearText : GoodIn wsL_law (wsV RL 92 RX6 yX6_clearText wsX6_clearText) := goodIn_app (goodIn_of _ (by decide +kernel)) ggL_law_X6_clearText
set_option maxRecDepth 20000 in
theorem ggL_law_X7_clearText : GoodIn wsL_law wsX7_clearText := goodIn_r _ [666, 628, 798, 799, 800, 801, 802, 803, 804, 805, 806, 807, 808, 809, 810, 811] (by decide +kernel) (by decide +kernel)
set_option maxRecDepth 20000 in
theorem gL_law_X7_clearText : GoodIn wsL_law (wsV RL 95 RX7 yX7_clearText wsX7_clearText) := goodIn_app (goodIn_of _ (by decide +kernel)) ggL_law_X7_clearText
set_option maxRecDepth 20000 in
theorem ggL_law_X6_fault : GoodIn wsL_law wsX6_fault := goodIn_r _ [670, 108, 27, 23, 15, 671, 672, 473, 673, 674, 235, 120, 2, 121, 675, 676, 677, 26, 678, 80, 84, 85, 679, 680, 681, 682, 123, 14, 124, 36, 38, 39, 40, 41, 42, 43, 44, 45, 46, 47, 48, 49, 50, 51, 52, 53, 125, 126, 127, 30, 128, 57, 58, 59, 60, 61, 62, 63, 129, 130, 131, 132, 133, 134, 135, 136, 137, 138, 683, 684, 685, 83, 686, 90, 94, 687, 688, 689, 690, 89, 95, 92, 691, 692, 693, 694, 91, 695, 696, 697, 22, 698, 75, 74, 699, 700, 701, 702, 703, 704, 705, 706, 707, 708, 709, 710, 93, 711, 712, 713, 714, 110, 111, 715, 716, 717, 718, 719, 720, 721, 722, 723, 724, 725, 726, 727, 728, 140, 141, 142, 143, 144, 145, 146, 147, 148, 149, 150, 151, 152, 153, 154, 155, 156, 157, 158, 159, 160, 161, 162, 163, 164, 165, 166, 167, 168, 169, 170, 171, 172, 173, 174, 175, 176, 729, 237, 238, 239, 240, 241, 242, 243, 244, 245, 246, 247, 248, 249, 250, 251, 252, 253, 254, 255, 256, 257, 258, 259, 260, 261, 262, 263, 730, 312, 313, 314, 315, 316, 317, 318, 319, 320, 321, 322, 323, 324, 325, 326, 327, 328, 329, 330, 331, 332, 333, 334, 335, 336, 337, 338, 339, 340, 341, 342, 731, 381, 382, 383, 384, 732, 417, 418, 419, 420, 421, 422, 423, 424, 425, 426, 427, 428, 429, 430, 431, 432, 433, 733, 400, 401, 402, 403, 793, 794, 795, 796, 797, 833, 834, 835, 843, 844, 845, 846, 847, 848, 849, 831, 832, 812, 813, 814, 815, 816, 817, 818, 819, 820, 821, 822, 823, 824, 825, 826, 827, 828, 836, 837, 838, 839, 840, 841, 842] (by decide +kernel) (by decide +kernel)
set_option maxRecDepth 20000 in
theorem gL_law_X6_fault : GoodIn wsL_law (wsV RL 96 RX6 yX6_fault wsX6_fault) := goodIn_app (goodIn_of _ (by decide +kernel)) ggL_law_X6_fault
set_option maxRecDepth 20000 in
theorem ggL_law_X7_fault : GoodIn wsL_law wsX7_fault := goodIn_r _ [737, 738, 189, 486, 739, 740, 741, 194, 195, 5, 196, 181, 182, 183, 184, 101, 100, 742, 743, 744, 745, 746, 628, 747, 748, 229, 749, 750, 751, 752, 103, 753, 754, 755, 756, 757, 758, 759, 760, 761, 762, 763, 764, 765, 766, 767, 768, 769, 770, 771, 772, 773, 774, 775, 776, 777, 351, 272, 190, 191, 192, 193, 778, 779, 780, 781, 185, 186, 187, 188, 197, 198, 199, 200, 201, 202, 203, 204, 205, 206, 207, 208, 209, 210, 211, 212, 213, 214, 215, 216, 217, 218, 219, 220, 221, 222, 223, 224, 268, 269, 270, 271, 273, 274, 275, 276, 277, 278, 279, 280, 281, 282, 283, 284, 347, 348, 349, 350, 352, 353, 354, 355, 356, 357, 358, 359, 360, 361, 362, 363, 364, 365, 366, 367, 368, 369, 370, 371, 372, 373, 374, 375, 389, 390, 391, 392, 438, 439, 440, 441, 408, 409, 410, 411, 302, 557, 558, 559, 560, 798, 799, 800, 801, 802, 803, 804, 805, 806, 807, 808, 809, 810, 811] (by decide +kernel) (by decide +kernel)
set_option maxRecDepth 20000 in
theorem gL_law_X7_fault : GoodIn wsL_law (wsV RL 99 RX7 yX7_fault wsX7_fault) := goodIn_app (goodIn_of _ (by decide +kernel)) ggL_law_X7_fault
set_option maxRecDepth 20000 in
theorem ggL_law_X6_play : GoodIn wsL_law wsX6_play := goodIn_r _ [785, 27, 23, 15, 671, 672, 290, 19, 786, 787, 675, 676, 677, 26, 678, 80, 84, 85, 679, 680, 681, 682, 123, 14, 124, 36, 38, 39, 40, 41, 42, 43, 44, 45, 46, 47, 48, 49, 50, 51, 52, 53, 125, 126, 127, 30, 128, 57, 58, 59, 60, 61, 62, 63, 129, 2, 130, 131, 132, 133, 134, 135, 136, 137, 138, 683, 684, 685, 83, 686, 90, 94, 687, 688, 689, 690, 89, 95, 92, 691, 692, 693, 694, 91, 695, 696, 697, 22, 698, 75, 74, 699, 700, 701, 702, 120, 121, 703, 704, 705, 706, 707, 708, 709, 710, 93, 711, 712, 713, 714, 110, 111, 715, 716, 717, 718, 719, 720, 721, 722, 723, 724, 725, 726, 727, 728, 140, 141, 142, 143, 144, 145, 146, 147, 148, 149, 150, 151, 152, 153, 154, 155, 156, 157, 158, 159, 160, 161, 162, 163, 164, 165, 166, 167, 168, 169, 170, 171, 172, 173, 174, 175, 176, 729, 237, 238, 239, 240, 241, 242, 243, 244, 245, 246, 247, 248, 249, 250, 251, 252, 253, 254, 255, 256, 257, 258, 259, 260, 261, 262, 263, 730, 312, 313, 314, 315, 316, 317, 318, 319, 320, 321, 322, 323, 324, 325, 326, 327, 328, 329, 330, 331, 332, 333, 334, 335, 336, 337, 338, 339, 340, 341, 342, 731, 381, 382, 383, 384, 732, 417, 418, 419, 420, 421, 422, 423, 424, 425, 426, 427, 428, 429, 430, 431, 432, 433, 733, 400, 401, 402, 403, 112, 113, 114, 18, 115, 70, 69, 116, 117, 118, 119, 122, 788, 793, 794, 795, 796, 797, 833, 834, 835, 843, 844, 845, 846, 847, 848, 849, 831, 832, 812, 813, 814, 815, 816, 817, 818, 819, 820, 821, 822, 823, 824, 825, 826, 827, 828, 836, 837, 838, 839, 840, 841, 842, 829, 830] (by decide +kernel) (by decide +kernel)
set_option maxRecDepth 20000 in
theorem gL_law_X6_play : GoodIn wsL_law (wsV RL 100 RX6 yX6_play wsX6_play) := goodIn_app (goodIn_of _ (by decide +kernel)) ggL_law_X6_play
set_option maxRecDepth 20000 in
theorem ggL_law_X7_play : GoodIn wsL_law wsX7_play := goodIn_r _ [792, 302, 746, 181, 182, 183, 5, 184, 101, 100, 742, 743, 744, 745, 739, 628, 747, 748, 229, 486, 749, 750, 751, 752, 103, 753, 754, 755, 756, 757, 758, 759, 760, 761, 762, 763, 764, 765, 194, 195, 196, 766, 767, 768, 769, 770, 771, 772, 773, 740, 741, 774, 775, 776, 777, 351, 272, 190, 191, 192, 193, 778, 779, 780, 781, 185, 186, 187, 188, 189, 197, 198, 199, 200, 201, 202, 203, 204, 205, 206, 207, 208, 209, 210, 211, 212, 213, 214, 215, 216, 217, 218, 219, 220, 221, 222, 223, 224, 268, 269, 270, 271, 273, 274, 275, 276, 277, 278, 279, 280, 281, 282, 283, 284, 347, 348, 349, 350, 352, 353, 354, 355, 356, 357, 358, 359, 360, 361, 362, 363, 364, 365, 366, 367, 368, 369, 370, 371, 372, 373, 374, 375, 389, 390, 391, 392, 438, 439, 440, 441, 408, 409, 410, 411, 557, 558, 559, 560, 225, 226, 227, 228, 230, 102, 798, 799, 800, 801, 802, 803, 804, 805, 806, 807, 808, 809, 810, 811] (by decide +kernel) (by decide +kernel)
set_option maxRecDepth 20000 in
theorem gL_law_X7_play : GoodIn wsL_law (wsV RL 103 RX7 yX7_play wsX7_play) := goodIn_app (goodIn_of _ (by decide +kernel)) ggL_law_X7_play
