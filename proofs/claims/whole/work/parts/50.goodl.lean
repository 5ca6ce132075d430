/-! words of one list among another's, by program -/
set_option maxRecDepth 20000 in
theorem ggL_law_X7_init : GoodIn wsL_law wsX7_init := goodIn_r _ [8, 9, 10, 11, 12, 13, 14, 15, 16, 17, 18, 19, 20, 21, 22, 23, 24, 25, 26, 27, 28, 29, 30, 31, 32, 33, 34, 35, 36, 37, 38, 39, 40, 41, 42, 43, 44, 45, 46, 47, 48, 49, 50, 51, 52, 53, 54, 55, 56, 57, 58, 59, 60, 61, 62, 63, 64, 65, 66, 67, 68, 69, 70, 71, 72, 73, 74, 75, 76, 77, 78, 79, 80, 81, 82, 83, 84, 85, 86, 87, 88, 89, 90, 91, 821, 822, 823, 780, 781, 782, 783, 784, 785, 786, 787, 788, 789, 824, 825, 826, 827, 828, 829, 830, 831, 832, 833, 834, 835, 836, 837, 838, 839, 840, 841, 842, 843, 844, 845, 846, 847, 848, 849, 850, 851, 852, 853, 854, 855, 856] rfl (by decide +kernel)
set_option maxRecDepth 20000 in
theorem gL_law_X7_init : GoodIn wsL_law (wsX7_init) := ggL_law_X7_init
set_option maxRecDepth 20000 in
theorem ggL_law_X8_init : GoodIn wsL_law wsX8_init := goodIn_r _ [94, 95, 10, 11, 46, 96, 97, 98, 99, 100, 101, 52, 102, 103, 104, 105, 106, 107, 108, 109, 110, 111, 112, 113, 114, 115, 116, 790, 791, 792, 793, 794, 795, 796, 797, 798, 799, 800, 801, 802, 803, 804, 805, 806, 807, 808, 809, 810, 811, 812, 813, 814, 815, 816, 817, 818, 819, 820] rfl (by decide +kernel)
set_option maxRecDepth 20000 in
theorem gL_law_X8_init : GoodIn wsL_law (wsX8_init) := ggL_law_X8_init
set_option maxRecDepth 20000 in
theorem ggL_law_X7_put : GoodIn wsL_law wsX7_put := goodIn_r _ [120, 15, 121, 122, 123, 2, 124, 125, 126, 127, 128, 129, 130, 14, 131, 132, 47, 48, 133, 134, 135, 136, 780, 781, 782, 783, 784, 785, 786, 787, 788, 789, 821, 822, 823] rfl (by decide +kernel)
set_option maxRecDepth 20000 in
theorem gL_law_X7_put : GoodIn wsL_law (wsV RL 13 RX7 yX7_put wsX7_put) := goodIn_app (goodIn_of _ (by decide +kernel)) ggL_law_X7_put
set_option maxRecDepth 20000 in
theorem ggL_law_X8_put : GoodIn wsL_law wsX8_put := goodIn_r _ [140, 141, 142, 143, 5, 144, 145, 146, 147, 148, 149, 150, 151, 100, 101, 152, 153, 154, 155, 790, 791, 792, 793, 794, 795, 796, 797, 798, 799, 800, 801, 802, 803, 804, 805, 806, 807, 808, 809, 810, 811, 812, 813, 814, 815, 816, 817, 818, 819, 820] rfl (by decide +kernel)
set_option maxRecDepth 20000 in
theorem gL_law_X8_put : GoodIn wsL_law (wsV RL 17 RX8 yX8_put wsX8_put) := goodIn_app (goodIn_of _ (by decide +kernel)) ggL_law_X8_put
set_option maxRecDepth 20000 in
theorem ggL_law_X7_clearPoints : GoodIn wsL_law wsX7_clearPoints := goodIn_r _ [159, 15, 121, 160, 161, 162, 14, 163, 132, 780, 781, 782, 783, 784, 785, 786, 787, 788, 789, 821, 822, 823] rfl (by decide +kernel)
set_option maxRecDepth 20000 in
theorem gL_law_X7_clearPoints : GoodIn wsL_law (wsV RL 18 RX7 yX7_clearPoints wsX7_clearPoints) := goodIn_app (goodIn_of _ (by decide +kernel)) ggL_law_X7_clearPoints
set_option maxRecDepth 20000 in
theorem ggL_law_X8_clearPoints : GoodIn wsL_law wsX8_clearPoints := goodIn_r _ [167, 141, 790, 791, 792, 793, 794, 795, 796, 797, 798, 799, 800, 801, 802, 803, 804, 805, 806, 807, 808, 809, 810, 811, 812, 813, 814, 815, 816, 817, 818, 819, 820] rfl (by decide +kernel)
set_option maxRecDepth 20000 in
theorem gL_law_X8_clearPoints : GoodIn wsL_law (wsV RL 22 RX8 yX8_clearPoints wsX8_clearPoints) := goodIn_app (goodIn_of _ (by decide +kernel)) ggL_law_X8_clearPoints
set_option maxRecDepth 20000 in
theorem ggL_law_X7_type : GoodIn wsL_law wsX7_type := goodIn_r _ [171, 19, 172, 173, 174, 175, 18, 176, 177, 53, 780, 781, 782, 783, 784, 785, 786, 787, 788, 789, 824, 825] rfl (by decide +kernel)
set_option maxRecDepth 20000 in
theorem gL_law_X7_type : GoodIn wsL_law (wsV RL 23 RX7 yX7_type wsX7_type) := goodIn_app (goodIn_of _ (by decide +kernel)) ggL_law_X7_type
set_option maxRecDepth 20000 in
theorem ggL_law_X8_type : GoodIn wsL_law wsX8_type := goodIn_r _ [181, 182, 102, 790, 791, 792, 793, 794, 795, 796, 797, 798, 799, 800, 801, 802, 803, 804, 805, 806, 807, 808, 809, 810, 811, 812, 813, 814, 815, 816, 817, 818, 819, 820] rfl (by decide +kernel)
set_option maxRecDepth 20000 in
theorem gL_law_X8_type : GoodIn wsL_law (wsV RL 27 RX8 yX8_type wsX8_type) := goodIn_app (goodIn_of _ (by decide +kernel)) ggL_law_X8_type
set_option maxRecDepth 20000 in
theorem ggL_law_X7_clearText : GoodIn wsL_law wsX7_clearText := goodIn_r _ [186, 19, 172, 187, 188, 189, 18, 190, 177, 780, 781, 782, 783, 784, 785, 786, 787, 788, 789, 824, 825] rfl (by decide +kernel)
set_option maxRecDepth 20000 in
theorem gL_law_X7_clearText : GoodIn wsL_law (wsV RL 28 RX7 yX7_clearText wsX7_clearText) := goodIn_app (goodIn_of _ (by decide +kernel)) ggL_law_X7_clearText
set_option maxRecDepth 20000 in
theorem ggL_law_X8_clearText : GoodIn wsL_law wsX8_clearText := goodIn_r _ [194, 182, 790, 791, 792, 793, 794, 795, 796, 797, 798, 799, 800, 801, 802, 803, 804, 805, 806, 807, 808, 809, 810, 811, 812, 813, 814, 815, 816, 817, 818, 819, 820] rfl (by decide +kernel)
set_option maxRecDepth 20000 in
theorem gL_law_X8_clearText : GoodIn wsL_law (wsV RL 31 RX8 yX8_clearText wsX8_clearText) := goodIn_app (goodIn_of _ (by decide +kernel)) ggL_law_X8_clearText
set_option maxRecDepth 20000 in
theorem ggL_law_X7_readPoints : GoodIn wsL_law wsX7_readPoints := goodIn_r _ [198, 19, 25, 15, 121, 199, 200, 201, 18, 202, 177, 53, 203, 161, 162, 14, 163, 132, 204, 205, 206, 207, 129, 130, 131, 47, 48, 133, 134, 135, 136, 208, 209, 210, 211, 212, 213, 214, 215, 780, 781, 782, 783, 784, 785, 786, 787, 788, 789, 821, 822, 823, 824, 825] rfl (by decide +kernel)
set_option maxRecDepth 20000 in
theorem gL_law_X7_readPoints : GoodIn wsL_law (wsV RL 32 RX7 yX7_readPoints wsX7_readPoints) := goodIn_app (goodIn_of _ (by decide +kernel)) ggL_law_X7_readPoints
set_option maxRecDepth 20000 in
theorem ggL_law_X8_readPoints : GoodIn wsL_law wsX8_readPoints := goodIn_r _ [219, 220, 221, 222, 182, 141, 103, 104, 223, 224, 225, 5, 226, 227, 228, 229, 230, 102, 231, 232, 233, 234, 148, 149, 150, 151, 100, 101, 152, 153, 154, 155, 790, 791, 792, 793, 794, 795, 796, 797, 798, 799, 800, 801, 802, 803, 804, 805, 806, 807, 808, 809, 810, 811, 812, 813, 814, 815, 816, 817, 818, 819, 820] rfl (by decide +kernel)
set_option maxRecDepth 20000 in
theorem gL_law_X8_readPoints : GoodIn wsL_law (wsV RL 35 RX8 yX8_readPoints wsX8_readPoints) := goodIn_app (goodIn_of _ (by decide +kernel)) ggL_law_X8_readPoints
set_option maxRecDepth 20000 in
theorem ggL_law_X7_draw : GoodIn wsL_law wsX7_draw := goodIn_r _ [238, 15, 121, 23, 29, 239, 240, 241, 2, 242, 125, 126, 127, 243, 244, 245, 22, 246, 247, 248, 249, 250, 251, 57, 252, 253, 254, 213, 214, 215, 255, 160, 161, 162, 14, 163, 132, 256, 257, 258, 28, 259, 260, 261, 262, 263, 264, 265, 266, 61, 267, 268, 62, 269, 780, 781, 782, 783, 784, 785, 786, 787, 788, 789, 821, 822, 823, 826, 827, 828, 829, 830, 831, 832] rfl (by decide +kernel)
set_option maxRecDepth 20000 in
theorem gL_law_X7_draw : GoodIn wsL_law (wsV RL 36 RX7 yX7_draw wsX7_draw) := goodIn_app (goodIn_of _ (by decide +kernel)) ggL_law_X7_draw
set_option maxRecDepth 20000 in
theorem ggL_law_X8_draw : GoodIn wsL_law wsX8_draw := goodIn_r _ [273, 141, 100, 101, 145, 146, 5, 147, 274, 275, 276, 277, 96, 278, 279, 280, 281, 105, 282, 283, 284, 285, 286, 287, 288, 289, 290, 291, 292, 293, 294, 295, 296, 297, 298, 299, 300, 301, 302, 303, 304, 305, 306, 307, 308, 309, 310, 311, 312, 313, 314, 315, 316, 317, 318, 319, 98, 320, 321, 322, 790, 791, 792, 793, 794, 795, 796, 797, 798, 799, 800, 801, 802, 803, 804, 805, 806, 807, 808, 809, 810, 811, 812, 813, 814, 815, 816, 817, 818, 819, 820] rfl (by decide +kernel)
set_option maxRecDepth 20000 in
theorem gL_law_X8_draw : GoodIn wsL_law (wsV RL 40 RX8 yX8_draw wsX8_draw) := goodIn_app (goodIn_of _ (by decide +kernel)) ggL_law_X8_draw
set_option maxRecDepth 20000 in
theorem ggL_law_X7_rub : GoodIn wsL_law wsX7_rub := goodIn_r _ [326, 24, 23, 239, 25, 29, 122, 123, 2, 124, 125, 126, 127, 327, 328, 329, 22, 330, 247, 160, 161, 162, 14, 163, 132, 331, 332, 333, 334, 57, 335, 336, 337, 338, 339, 340, 341, 342, 343, 344, 345, 346, 347, 348, 349, 350, 351, 352, 353, 121, 243, 244, 245, 246, 248, 249, 250, 251, 252, 253, 254, 213, 214, 215, 255, 128, 129, 130, 131, 47, 48, 133, 134, 135, 136, 354, 355, 356, 357, 256, 257, 258, 28, 259, 260, 261, 262, 263, 264, 265, 266, 61, 267, 268, 62, 269, 780, 781, 782, 783, 784, 785, 786, 787, 788, 789, 826, 827, 821, 822, 823, 828, 829, 830, 831, 832] rfl (by decide +kernel)
set_option maxRecDepth 20000 in
theorem gL_law_X7_rub : GoodIn wsL_law (wsV RL 41 RX7 yX7_rub wsX7_rub) := goodIn_app (goodIn_of _ (by decide +kernel)) ggL_law_X7_rub
set_option maxRecDepth 20000 in
theorem ggL_law_X8_rub : GoodIn wsL_law wsX8_rub := goodIn_r _ [361, 96, 105, 142, 143, 5, 144, 145, 146, 147, 278, 279, 280, 281, 274, 275, 276, 277, 290, 291, 292, 293, 294, 295, 296, 297, 298, 299, 300, 301, 362, 363, 364, 286, 287, 288, 289, 302, 303, 304, 305, 306, 307, 308, 309, 310, 311, 312, 313, 314, 315, 316, 317, 318, 319, 98, 320, 321, 322, 790, 791, 792, 793, 794, 795, 796, 797, 798, 799, 800, 801, 802, 803, 804, 805, 806, 807, 808, 809, 810, 811, 812, 813, 814, 815, 816, 817, 818, 819, 820] rfl (by decide +kernel)
set_option maxRecDepth 20000 in
theorem gL_law_X8_rub : GoodIn wsL_law (wsV RL 45 RX8 yX8_rub wsX8_rub) := goodIn_app (goodIn_of _ (by decide +kernel)) ggL_law_X8_rub
set_option maxRecDepth 20000 in
theorem ggL_law_X7_smooth : GoodIn wsL_law wsX7_smooth := goodIn_r _ [368, 23, 25, 369, 370, 371, 22, 372, 247, 125, 126, 2, 127, 373, 374, 375, 14, 376, 132, 377, 332, 333, 334, 57, 378, 336, 337, 338, 379, 340, 341, 342, 380, 129, 130, 131, 47, 48, 133, 134, 135, 136, 381, 382, 383, 384, 385, 386, 387, 388, 389, 390, 391, 392, 29, 121, 393, 394, 395, 396, 252, 253, 255, 397, 398, 399, 346, 347, 348, 349, 400, 249, 250, 251, 254, 213, 214, 215, 256, 257, 258, 28, 259, 260, 261, 262, 263, 264, 265, 266, 61, 267, 268, 62, 269, 780, 781, 782, 783, 784, 785, 786, 787, 788, 789, 826, 827, 821, 822, 823, 828, 829, 830, 831, 832] rfl (by decide +kernel)
set_option maxRecDepth 20000 in
theorem gL_law_X7_smooth : GoodIn wsL_law (wsV RL 46 RX7 yX7_smooth wsX7_smooth) := goodIn_app (goodIn_of _ (by decide +kernel)) ggL_law_X7_smooth
set_option maxRecDepth 20000 in
theorem ggL_law_X8_smooth : GoodIn wsL_law wsX8_smooth := goodIn_r _ [404, 405, 406, 407, 5, 408, 274, 275, 276, 277, 96, 145, 146, 147, 409, 410, 411, 412, 413, 106, 107, 290, 291, 292, 293, 294, 295, 296, 297, 298, 299, 300, 301, 414, 415, 416, 417, 108, 109, 418, 419, 420, 421, 422, 423, 424, 425, 278, 279, 280, 281, 105, 282, 283, 284, 285, 286, 287, 288, 289, 302, 303, 304, 305, 306, 307, 308, 309, 310, 311, 312, 313, 314, 315, 316, 317, 318, 319, 98, 320, 321, 322, 790, 791, 792, 793, 794, 795, 796, 797, 798, 799, 800, 801, 802, 803, 804, 805, 806, 807, 808, 809, 810, 811, 812, 813, 814, 815, 816, 817, 818, 819, 820] rfl (by decide +kernel)
set_option maxRecDepth 20000 in
theorem gL_law_X8_smooth : GoodIn wsL_law (wsV RL 49 RX8 yX8_smooth wsX8_smooth) := goodIn_app (goodIn_of _ (by decide +kernel)) ggL_law_X8_smooth
set_option maxRecDepth 20000 in
theorem ggL_law_X7_thin : GoodIn wsL_law wsX7_thin := goodIn_r _ [429, 23, 25, 369, 370, 371, 22, 372, 247, 125, 126, 2, 127, 373, 374, 375, 14, 376, 132, 377, 332, 333, 334, 57, 378, 336, 337, 338, 379, 340, 341, 342, 380, 129, 130, 131, 47, 48, 133, 134, 135, 136, 430, 431, 432, 433, 344, 345, 389, 390, 391, 392, 29, 121, 393, 394, 395, 396, 252, 253, 255, 397, 398, 399, 346, 347, 348, 349, 400, 249, 250, 251, 254, 213, 214, 215, 256, 257, 258, 28, 259, 260, 261, 262, 263, 264, 265, 266, 61, 267, 268, 62, 269, 780, 781, 782, 783, 784, 785, 786, 787, 788, 789, 826, 827, 821, 822, 823, 828, 829, 830, 831, 832] rfl (by decide +kernel)
set_option maxRecDepth 20000 in
theorem gL_law_X7_thin : GoodIn wsL_law (wsV RL 50 RX7 yX7_thin wsX7_thin) := goodIn_app (goodIn_of _ (by decide +kernel)) ggL_law_X7_thin
set_option maxRecDepth 20000 in
theorem ggL_law_X8_thin : GoodIn wsL_law wsX8_thin := goodIn_r _ [437, 413, 106, 107, 405, 406, 407, 5, 408, 274, 275, 276, 277, 96, 145, 146, 147, 409, 410, 411, 412, 290, 291, 292, 293, 294, 295, 296, 297, 298, 299, 300, 301, 362, 363, 364, 418, 419, 420, 421, 422, 423, 424, 425, 278, 279, 280, 281, 105, 282, 283, 284, 285, 286, 287, 288, 289, 302, 303, 304, 305, 306, 307, 308, 309, 310, 311, 312, 313, 314, 315, 316, 317, 318, 319, 98, 320, 321, 322, 790, 791, 792, 793, 794, 795, 796, 797, 798, 799, 800, 801, 802, 803, 804, 805, 806, 807, 808, 809, 810, 811, 812, 813, 814, 815, 816, 817, 818, 819, 820] rfl (by decide +kernel)
set_option maxRecDepth 20000 in
theorem gL_law_X8_thin : GoodIn wsL_law (wsV RL 53 RX8 yX8_thin wsX8_thin) := goodIn_app (goodIn_of _ (by decide +kernel)) ggL_law_X8_thin
set_option maxRecDepth 20000 in
theorem ggL_law_X7_join : GoodIn wsL_law wsX7_join := goodIn_r _ [441, 23, 25, 121, 29, 369, 370, 371, 22, 372, 247, 373, 374, 375, 14, 376, 132, 377, 332, 333, 334, 57, 378, 336, 337, 338, 379, 340, 341, 342, 380, 129, 130, 131, 47, 48, 133, 134, 135, 136, 335, 339, 442, 331, 128, 346, 347, 348, 349, 400, 249, 250, 251, 252, 253, 254, 213, 214, 215, 255, 443, 444, 445, 446, 447, 256, 257, 258, 28, 259, 260, 261, 262, 263, 264, 265, 266, 61, 267, 268, 62, 269, 780, 781, 782, 783, 784, 785, 786, 787, 788, 789, 821, 822, 823, 826, 827, 828, 829, 830, 831, 832] rfl (by decide +kernel)
set_option maxRecDepth 20000 in
theorem gL_law_X7_join : GoodIn wsL_law (wsV RL 54 RX7 yX7_join wsX7_join) := goodIn_app (goodIn_of _ (by decide +kernel)) ggL_law_X7_join
set_option maxRecDepth 20000 in
theorem ggL_law_X8_join : GoodIn wsL_law wsX8_join := goodIn_r _ [451, 405, 406, 407, 5, 408, 274, 275, 276, 277, 96, 145, 146, 147, 290, 291, 292, 293, 294, 295, 296, 297, 298, 299, 300, 301, 278, 279, 280, 281, 105, 282, 283, 284, 285, 286, 287, 288, 289, 302, 303, 304, 305, 306, 307, 308, 309, 310, 311, 312, 313, 314, 315, 316, 317, 318, 319, 98, 320, 321, 322, 790, 791, 792, 793, 794, 795, 796, 797, 798, 799, 800, 801, 802, 803, 804, 805, 806, 807, 808, 809, 810, 811, 812, 813, 814, 815, 816, 817, 818, 819, 820] rfl (by decide +kernel)
set_option maxRecDepth 20000 in
theorem gL_law_X8_join : GoodIn wsL_law (wsV RL 57 RX8 yX8_join wsX8_join) := goodIn_app (goodIn_of _ (by decide +kernel)) ggL_law_X8_join
set_option maxRecDepth 20000 in
theorem ggL_law_X7_shift : GoodIn wsL_law wsX7_shift := goodIn_r _ [455, 23, 25, 369, 370, 371, 22, 372, 247, 125, 126, 2, 127, 456, 457, 458, 459, 397, 332, 333, 334, 57, 460, 461, 462, 463, 464, 263, 264, 265, 122, 123, 124, 465, 466, 467, 468, 469, 470, 471, 472, 473, 474, 475, 476, 477, 478, 479, 480, 481, 482, 483, 160, 161, 162, 14, 163, 132, 331, 335, 336, 337, 338, 339, 340, 341, 342, 128, 129, 130, 131, 47, 48, 133, 134, 135, 136, 389, 390, 391, 392, 29, 121, 393, 394, 395, 396, 252, 253, 255, 398, 399, 346, 347, 348, 349, 400, 249, 250, 251, 254, 213, 214, 215, 256, 257, 258, 28, 259, 260, 261, 262, 266, 61, 267, 268, 62, 269, 780, 781, 782, 783, 784, 785, 786, 787, 788, 789, 826, 827, 821, 822, 823, 828, 829, 830, 831, 832] rfl (by decide +kernel)
set_option maxRecDepth 20000 in
theorem gL_law_X7_shift : GoodIn wsL_law (wsV RL 58 RX7 yX7_shift wsX7_shift) := goodIn_app (goodIn_of _ (by decide +kernel)) ggL_law_X7_shift
set_option maxRecDepth 20000 in
theorem ggL_law_X8_shift : GoodIn wsL_law wsX8_shift := goodIn_r _ [487, 413, 106, 107, 405, 406, 407, 5, 408, 274, 275, 276, 277, 96, 145, 146, 147, 409, 410, 411, 412, 290, 291, 292, 293, 294, 295, 296, 297, 298, 299, 300, 301, 142, 143, 144, 422, 423, 424, 425, 278, 279, 280, 281, 105, 282, 283, 284, 285, 286, 287, 288, 289, 302, 303, 304, 305, 306, 307, 308, 309, 310, 311, 312, 313, 314, 315, 316, 317, 318, 319, 98, 320, 321, 322, 790, 791, 792, 793, 794, 795, 796, 797, 798, 799, 800, 801, 802, 803, 804, 805, 806, 807, 808, 809, 810, 811, 812, 813, 814, 815, 816, 817, 818, 819, 820] rfl (by decide +kernel)
set_option maxRecDepth 20000 in
theorem gL_law_X8_shift : GoodIn wsL_law (wsV RL 61 RX8 yX8_shift wsX8_shift) := goodIn_app (goodIn_of _ (by decide +kernel)) ggL_law_X8_shift
set_option maxRecDepth 20000 in
theorem ggL_law_X7_paint : GoodIn wsL_law wsX7_paint := goodIn_r _ [491, 23, 29, 369, 370, 371, 22, 372, 247, 240, 241, 2, 242, 125, 126, 127, 346, 347, 348, 349, 57, 492, 493, 494, 495, 256, 257, 258, 28, 259, 260, 261, 262, 263, 264, 265, 266, 61, 267, 268, 62, 269, 213, 214, 215, 780, 781, 782, 783, 784, 785, 786, 787, 788, 789, 826, 827, 828, 829, 830, 831, 832] rfl (by decide +kernel)
set_option maxRecDepth 20000 in
theorem gL_law_X7_paint : GoodIn wsL_law (wsV RL 62 RX7 yX7_paint wsX7_paint) := goodIn_app (goodIn_of _ (by decide +kernel)) ggL_law_X7_paint
set_option maxRecDepth 20000 in
theorem ggL_law_X8_paint : GoodIn wsL_law wsX8_paint := goodIn_r _ [499, 96, 405, 406, 407, 5, 408, 274, 275, 276, 277, 145, 146, 147, 310, 311, 312, 313, 314, 315, 316, 317, 318, 319, 98, 320, 321, 322, 790, 791, 792, 793, 794, 795, 796, 797, 798, 799, 800, 801, 802, 803, 804, 805, 806, 807, 808, 809, 810, 811, 812, 813, 814, 815, 816, 817, 818, 819, 820] rfl (by decide +kernel)
set_option maxRecDepth 20000 in
theorem gL_law_X8_paint : GoodIn wsL_law (wsV RL 65 RX8 yX8_paint wsX8_paint) := goodIn_app (goodIn_of _ (by decide +kernel)) ggL_law_X8_paint
set_option maxRecDepth 20000 in
theorem ggL_law_X7_remove : GoodIn wsL_law wsX7_remove := goodIn_r _ [503, 23, 29, 239, 369, 370, 371, 22, 372, 247, 443, 444, 445, 446, 57, 254, 213, 214, 215, 447, 256, 257, 258, 28, 259, 260, 261, 262, 263, 264, 265, 266, 61, 267, 268, 62, 269, 780, 781, 782, 783, 784, 785, 786, 787, 788, 789, 826, 827, 828, 829, 830, 831, 832] rfl (by decide +kernel)
set_option maxRecDepth 20000 in
theorem gL_law_X7_remove : GoodIn wsL_law (wsV RL 66 RX7 yX7_remove wsX7_remove) := goodIn_app (goodIn_of _ (by decide +kernel)) ggL_law_X7_remove
set_option maxRecDepth 20000 in
theorem ggL_law_X8_remove : GoodIn wsL_law wsX8_remove := goodIn_r _ [507, 405, 406, 407, 5, 408, 274, 275, 276, 277, 96, 145, 146, 147, 278, 279, 280, 281, 105, 282, 283, 284, 285, 286, 287, 288, 289, 290, 291, 292, 293, 294, 295, 296, 297, 298, 299, 300, 301, 302, 303, 304, 305, 306, 307, 308, 309, 310, 311, 312, 313, 314, 315, 316, 317, 318, 319, 98, 320, 321, 322, 790, 791, 792, 793, 794, 795, 796, 797, 798, 799, 800, 801, 802, 803, 804, 805, 806, 807, 808, 809, 810, 811, 812, 813, 814, 815, 816, 817, 818, 819, 820] rfl (by decide +kernel)
set_option maxRecDepth 20000 in
theorem gL_law_X8_remove : GoodIn wsL_law (wsV RL 69 RX8 yX8_remove wsX8_remove) := goodIn_app (goodIn_of _ (by decide +kernel)) ggL_law_X8_remove
set_option maxRecDepth 20000 in
theorem ggL_law_X7_undo : GoodIn wsL_law wsX7_undo := goodIn_r _ [511, 29, 512, 23, 513, 514, 515, 28, 516, 261, 260, 266, 517, 518, 519, 520, 61, 267, 62, 268, 269, 213, 214, 215, 780, 781, 782, 783, 784, 785, 786, 787, 788, 789, 828, 829, 830, 831, 832, 826, 827] rfl (by decide +kernel)
set_option maxRecDepth 20000 in
theorem gL_law_X7_undo : GoodIn wsL_law (wsV RL 70 RX7 yX7_undo wsX7_undo) := goodIn_app (goodIn_of _ (by decide +kernel)) ggL_law_X7_undo
set_option maxRecDepth 20000 in
theorem ggL_law_X8_undo : GoodIn wsL_law wsX8_undo := goodIn_r _ [524, 319, 96, 99, 314, 98, 320, 321, 5, 322, 790, 791, 792, 793, 794, 795, 796, 797, 798, 799, 800, 801, 802, 803, 804, 805, 806, 807, 808, 809, 810, 811, 812, 813, 814, 815, 816, 817, 818, 819, 820] rfl (by decide +kernel)
set_option maxRecDepth 20000 in
theorem gL_law_X8_undo : GoodIn wsL_law (wsV RL 73 RX8 yX8_undo wsX8_undo) := goodIn_app (goodIn_of _ (by decide +kernel)) ggL_law_X8_undo
set_option maxRecDepth 20000 in
theorem ggL_law_X7_redo : GoodIn wsL_law wsX7_redo := goodIn_r _ [528, 29, 529, 23, 530, 531, 532, 28, 533, 266, 260, 261, 517, 518, 519, 520, 61, 267, 62, 268, 269, 213, 214, 215, 780, 781, 782, 783, 784, 785, 786, 787, 788, 789, 828, 829, 830, 831, 832, 826, 827] rfl (by decide +kernel)
set_option maxRecDepth 20000 in
theorem gL_law_X7_redo : GoodIn wsL_law (wsV RL 74 RX7 yX7_redo wsX7_redo) := goodIn_app (goodIn_of _ (by decide +kernel)) ggL_law_X7_redo
set_option maxRecDepth 20000 in
theorem ggL_law_X8_redo : GoodIn wsL_law wsX8_redo := goodIn_r _ [537, 314, 99, 96, 315, 316, 317, 5, 318, 319, 98, 320, 321, 322, 790, 791, 792, 793, 794, 795, 796, 797, 798, 799, 800, 801, 802, 803, 804, 805, 806, 807, 808, 809, 810, 811, 812, 813, 814, 815, 816, 817, 818, 819, 820] rfl (by decide +kernel)
set_option maxRecDepth 20000 in
theorem gL_law_X8_redo : GoodIn wsL_law (wsV RL 77 RX8 yX8_redo wsX8_redo) := goodIn_app (goodIn_of _ (by decide +kernel)) ggL_law_X8_redo
set_option maxRecDepth 20000 in
theorem ggL_law_X7_stroke : GoodIn wsL_law wsX7_stroke := goodIn_r _ [541, 23, 33, 542, 37, 543, 544, 369, 370, 371, 22, 372, 247, 346, 347, 348, 349, 57, 331, 332, 333, 334, 456, 457, 458, 459, 397, 460, 461, 462, 463, 464, 263, 264, 265, 465, 466, 467, 468, 469, 470, 471, 472, 473, 474, 475, 476, 477, 478, 479, 480, 481, 482, 483, 545, 546, 547, 548, 398, 336, 337, 338, 399, 340, 341, 342, 344, 2, 345, 549, 550, 551, 552, 553, 554, 42, 555, 556, 557, 32, 558, 559, 560, 70, 71, 561, 562, 66, 563, 564, 565, 566, 567, 568, 569, 570, 571, 572, 72, 67, 68, 69, 573, 574, 575, 576, 577, 578, 579, 36, 580, 581, 582, 76, 583, 84, 85, 86, 82, 79, 80, 81, 83, 78, 584, 585, 586, 587, 588, 77, 589, 590, 591, 592, 593, 594, 780, 781, 782, 783, 784, 785, 786, 787, 788, 789, 833, 834, 835, 836, 837, 838, 839, 840, 841, 842, 843, 844, 845, 846, 847, 848, 849, 850, 851, 852, 826, 827] rfl (by decide +kernel)
set_option maxRecDepth 20000 in
theorem gL_law_X7_stroke : GoodIn wsL_law (wsV RL 78 RX7 yX7_stroke wsX7_stroke) := goodIn_app (goodIn_of _ (by decide +kernel)) ggL_law_X7_stroke
set_option maxRecDepth 20000 in
theorem ggL_law_X8_stroke : GoodIn wsL_law wsX8_stroke := goodIn_r _ [598, 96, 114, 405, 406, 407, 5, 408, 274, 275, 276, 277, 145, 146, 147, 599, 600, 601, 602, 115, 603, 97, 604, 605, 606, 607, 608, 110, 111, 112, 113, 609, 610, 611, 612, 298, 299, 300, 301, 294, 295, 296, 297, 290, 291, 292, 293, 613, 614, 615, 616, 617, 618, 619, 620, 621, 622, 623, 624, 625, 626, 627, 628, 629, 630, 631, 632, 633, 634, 635, 636, 637, 638, 639, 640, 362, 363, 364, 641, 642, 643, 790, 791, 792, 793, 794, 795, 796, 797, 798, 799, 800, 801, 802, 803, 804, 805, 806, 807, 808, 809, 810, 811, 812, 813, 814, 815, 816, 817, 818, 819, 820] rfl (by decide +kernel)
set_option maxRecDepth 20000 in
theorem gL_law_X8_stroke : GoodIn wsL_law (wsV RL 81 RX8 yX8_stroke wsX8_stroke) := goodIn_app (goodIn_of _ (by decide +kernel)) ggL_law_X8_stroke
set_option maxRecDepth 20000 in
theorem ggL_law_X7_point : GoodIn wsL_law wsX7_point := goodIn_r _ [647, 23, 369, 370, 371, 22, 372, 247, 331, 332, 333, 334, 57, 125, 126, 2, 127, 335, 336, 337, 338, 339, 340, 341, 342, 780, 781, 782, 783, 784, 785, 786, 787, 788, 789, 826, 827] rfl (by decide +kernel)
set_option maxRecDepth 20000 in
theorem gL_law_X7_point : GoodIn wsL_law (wsV RL 82 RX7 yX7_point wsX7_point) := goodIn_app (goodIn_of _ (by decide +kernel)) ggL_law_X7_point
set_option maxRecDepth 20000 in
theorem ggL_law_X8_point : GoodIn wsL_law wsX8_point := goodIn_r _ [651, 405, 406, 407, 5, 408, 274, 275, 276, 277, 96, 145, 146, 147, 290, 291, 292, 293, 294, 295, 296, 297, 298, 299, 300, 301, 790, 791, 792, 793, 794, 795, 796, 797, 798, 799, 800, 801, 802, 803, 804, 805, 806, 807, 808, 809, 810, 811, 812, 813, 814, 815, 816, 817, 818, 819, 820] rfl (by decide +kernel)
set_option maxRecDepth 20000 in
theorem gL_law_X8_point : GoodIn wsL_law (wsV RL 85 RX8 yX8_point wsX8_point) := goodIn_app (goodIn_of _ (by decide +kernel)) ggL_law_X8_point
set_option maxRecDepth 20000 in
theorem ggL_law_X7_read : GoodIn wsL_law wsX7_read := goodIn_r _ [655, 23, 239, 37, 656, 551, 552, 553, 2, 554, 33, 42, 555, 556, 557, 32, 558, 559, 560, 70, 71, 561, 263, 264, 265, 562, 474, 475, 66, 563, 477, 478, 22, 479, 397, 332, 333, 334, 57, 460, 461, 462, 463, 464, 564, 481, 482, 483, 469, 470, 471, 472, 473, 565, 566, 567, 568, 569, 570, 571, 572, 72, 67, 68, 69, 573, 574, 575, 576, 577, 578, 579, 36, 580, 581, 582, 76, 583, 84, 85, 86, 82, 79, 80, 81, 83, 78, 584, 585, 586, 587, 588, 77, 589, 457, 458, 459, 590, 591, 592, 593, 594, 466, 467, 468, 780, 781, 782, 783, 784, 785, 786, 787, 788, 789, 826, 827, 841, 842, 843, 844, 845, 846, 847, 848, 849, 850, 851, 852, 833, 834, 835, 836, 837, 838, 839, 840] rfl (by decide +kernel)
set_option maxRecDepth 20000 in
theorem gL_law_X7_read : GoodIn wsL_law (wsV RL 86 RX7 yX7_read wsX7_read) := goodIn_app (goodIn_of _ (by decide +kernel)) ggL_law_X7_read
set_option maxRecDepth 20000 in
theorem ggL_law_X8_read : GoodIn wsL_law wsX8_read := goodIn_r _ [660, 115, 599, 600, 601, 5, 602, 603, 97, 114, 604, 605, 606, 607, 608, 110, 111, 112, 113, 274, 275, 276, 277, 96, 609, 610, 611, 612, 298, 299, 300, 301, 294, 295, 296, 297, 290, 291, 292, 293, 613, 614, 615, 616, 617, 618, 619, 620, 621, 622, 623, 624, 625, 626, 627, 628, 629, 630, 631, 632, 633, 634, 635, 636, 790, 791, 792, 793, 794, 795, 796, 797, 798, 799, 800, 801, 802, 803, 804, 805, 806, 807, 808, 809, 810, 811, 812, 813, 814, 815, 816, 817, 818, 819, 820] rfl (by decide +kernel)
set_option maxRecDepth 20000 in
theorem gL_law_X8_read : GoodIn wsL_law (wsV RL 89 RX8 yX8_read wsX8_read) := goodIn_app (goodIn_of _ (by decide +kernel)) ggL_law_X8_read
set_option maxRecDepth 20000 in
theorem ggL_law_X7_line : GoodIn wsL_law wsX7_line := goodIn_r _ [664, 33, 665, 666, 667, 668, 37, 669, 670, 551, 552, 553, 2, 554, 23, 42, 555, 556, 557, 32, 558, 559, 560, 70, 71, 561, 263, 264, 265, 562, 474, 475, 66, 563, 477, 478, 22, 479, 397, 332, 333, 334, 57, 460, 461, 462, 463, 464, 564, 481, 482, 483, 469, 470, 471, 472, 473, 565, 566, 567, 568, 569, 570, 571, 572, 72, 67, 68, 69, 573, 574, 575, 576, 577, 578, 579, 36, 580, 581, 582, 76, 583, 84, 85, 86, 82, 79, 80, 81, 83, 78, 584, 585, 586, 587, 588, 77, 589, 457, 458, 459, 590, 591, 592, 593, 594, 466, 467, 468, 125, 126, 127, 780, 781, 782, 783, 784, 785, 786, 787, 788, 789, 833, 834, 835, 836, 837, 838, 839, 840, 841, 842, 843, 844, 845, 846, 847, 848, 849, 850, 851, 852, 826, 827] rfl (by decide +kernel)
set_option maxRecDepth 20000 in
theorem gL_law_X7_line : GoodIn wsL_law (wsV RL 90 RX7 yX7_line wsX7_line) := goodIn_app (goodIn_of _ (by decide +kernel)) ggL_law_X7_line
set_option maxRecDepth 20000 in
theorem ggL_law_X8_line : GoodIn wsL_law wsX8_line := goodIn_r _ [674, 608, 113, 115, 114, 110, 111, 599, 600, 601, 5, 602, 603, 97, 604, 605, 606, 607, 112, 274, 275, 276, 277, 96, 609, 610, 611, 612, 298, 299, 300, 301, 294, 295, 296, 297, 290, 291, 292, 293, 613, 614, 615, 616, 617, 618, 619, 620, 621, 622, 623, 624, 625, 626, 627, 628, 629, 630, 631, 632, 633, 634, 635, 636, 145, 146, 147, 790, 791, 792, 793, 794, 795, 796, 797, 798, 799, 800, 801, 802, 803, 804, 805, 806, 807, 808, 809, 810, 811, 812, 813, 814, 815, 816, 817, 818, 819, 820] rfl (by decide +kernel)
set_option maxRecDepth 20000 in
theorem gL_law_X8_line : GoodIn wsL_law (wsV RL 93 RX8 yX8_line wsX8_line) := goodIn_app (goodIn_of _ (by decide +kernel)) ggL_law_X8_line
set_option maxRecDepth 20000 in
theorem ggL_law_X7_word : GoodIn wsL_law wsX7_word := goodIn_r _ [678, 37, 679, 680, 681, 682, 683, 684, 551, 552, 553, 2, 554, 33, 23, 42, 555, 556, 557, 32, 558, 559, 560, 70, 71, 561, 263, 264, 265, 562, 474, 475, 66, 563, 477, 478, 22, 479, 397, 332, 333, 334, 57, 460, 461, 462, 463, 464, 564, 481, 482, 483, 469, 470, 471, 472, 473, 565, 566, 567, 568, 569, 570, 571, 572, 72, 67, 68, 69, 573, 574, 575, 576, 577, 578, 579, 36, 580, 581, 582, 76, 583, 84, 85, 86, 82, 79, 80, 81, 83, 78, 584, 585, 586, 587, 588, 77, 589, 457, 458, 459, 590, 591, 592, 593, 594, 466, 467, 468, 125, 126, 127, 780, 781, 782, 783, 784, 785, 786, 787, 788, 789, 841, 842, 843, 844, 845, 846, 847, 848, 849, 850, 851, 852, 833, 834, 835, 836, 837, 838, 839, 840, 826, 827] rfl (by decide +kernel)
set_option maxRecDepth 20000 in
theorem gL_law_X7_word : GoodIn wsL_law (wsV RL 94 RX7 yX7_word wsX7_word) := goodIn_app (goodIn_of _ (by decide +kernel)) ggL_law_X7_word
set_option maxRecDepth 20000 in
theorem ggL_law_X8_word : GoodIn wsL_law wsX8_word := goodIn_r _ [688, 603, 114, 115, 599, 600, 601, 5, 602, 97, 604, 605, 606, 607, 608, 110, 111, 112, 113, 274, 275, 276, 277, 96, 609, 610, 611, 612, 298, 299, 300, 301, 294, 295, 296, 297, 290, 291, 292, 293, 613, 614, 615, 616, 617, 618, 619, 620, 621, 622, 623, 624, 625, 626, 627, 628, 629, 630, 631, 632, 633, 634, 635, 636, 145, 146, 147, 790, 791, 792, 793, 794, 795, 796, 797, 798, 799, 800, 801, 802, 803, 804, 805, 806, 807, 808, 809, 810, 811, 812, 813, 814, 815, 816, 817, 818, 819, 820] rfl (by decide +kernel)
set_option maxRecDepth 20000 in
theorem gL_law_X8_word : GoodIn wsL_law (wsV RL 97 RX8 yX8_word wsX8_word) := goodIn_app (goodIn_of _ (by decide +kernel)) ggL_law_X8_word
set_option maxRecDepth 20000 in
theorem ggL_law_X7_setGap : GoodIn wsL_law wsX7_setGap := goodIn_r _ [692, 42, 125, 126, 2, 127, 780, 781, 782, 783, 784, 785, 786, 787, 788, 789] rfl (by decide +kernel)
set_option maxRecDepth 20000 in
theorem gL_law_X7_setGap : GoodIn wsL_law (wsV RL 98 RX7 yX7_setGap wsX7_setGap) := goodIn_app (goodIn_of _ (by decide +kernel)) ggL_law_X7_setGap
set_option maxRecDepth 20000 in
theorem ggL_law_X8_setGap : GoodIn wsL_law wsX8_setGap := goodIn_r _ [696, 97, 145, 146, 5, 147, 790, 791, 792, 793, 794, 795, 796, 797, 798, 799, 800, 801, 802, 803, 804, 805, 806, 807, 808, 809, 810, 811, 812, 813, 814, 815, 816, 817, 818, 819, 820] rfl (by decide +kernel)
set_option maxRecDepth 20000 in
theorem gL_law_X8_setGap : GoodIn wsL_law (wsV RL 101 RX8 yX8_setGap wsX8_setGap) := goodIn_app (goodIn_of _ (by decide +kernel)) ggL_law_X8_setGap
set_option maxRecDepth 20000 in
theorem ggL_law_X7_nearest : GoodIn wsL_law wsX7_nearest := goodIn_r _ [700, 23, 239, 122, 123, 2, 124, 125, 126, 127, 331, 332, 333, 22, 334, 57, 335, 336, 337, 338, 339, 340, 341, 342, 343, 344, 345, 780, 781, 782, 783, 784, 785, 786, 787, 788, 789, 826, 827] rfl (by decide +kernel)
set_option maxRecDepth 20000 in
theorem gL_law_X7_nearest : GoodIn wsL_law (wsV RL 102 RX7 yX7_nearest wsX7_nearest) := goodIn_app (goodIn_of _ (by decide +kernel)) ggL_law_X7_nearest
set_option maxRecDepth 20000 in
theorem ggL_law_X8_nearest : GoodIn wsL_law wsX8_nearest := goodIn_r _ [704, 142, 143, 5, 144, 145, 146, 147, 274, 275, 276, 277, 96, 290, 291, 292, 293, 294, 295, 296, 297, 298, 299, 300, 301, 362, 363, 364, 790, 791, 792, 793, 794, 795, 796, 797, 798, 799, 800, 801, 802, 803, 804, 805, 806, 807, 808, 809, 810, 811, 812, 813, 814, 815, 816, 817, 818, 819, 820] rfl (by decide +kernel)
set_option maxRecDepth 20000 in
theorem gL_law_X8_nearest : GoodIn wsL_law (wsV RL 105 RX8 yX8_nearest wsX8_nearest) := goodIn_app (goodIn_of _ (by decide +kernel)) ggL_law_X8_nearest
set_option maxRecDepth 20000 in
theorem ggL_law_X7_cell : GoodIn wsL_law wsX7_cell := goodIn_r _ [708, 23, 239, 122, 123, 2, 124, 125, 126, 127, 709, 710, 711, 331, 332, 333, 22, 334, 57, 335, 336, 337, 338, 339, 340, 341, 342, 780, 781, 782, 783, 784, 785, 786, 787, 788, 789, 826, 827] rfl (by decide +kernel)
set_option maxRecDepth 20000 in
theorem gL_law_X7_cell : GoodIn wsL_law (wsV RL 106 RX7 yX7_cell wsX7_cell) := goodIn_app (goodIn_of _ (by decide +kernel)) ggL_law_X7_cell
set_option maxRecDepth 20000 in
theorem ggL_law_X8_cell : GoodIn wsL_law wsX8_cell := goodIn_r _ [715, 116, 142, 143, 5, 144, 145, 146, 147, 716, 717, 718, 719, 96, 274, 275, 276, 277, 290, 291, 292, 293, 298, 299, 300, 301, 294, 295, 296, 297, 790, 791, 792, 793, 794, 795, 796, 797, 798, 799, 800, 801, 802, 803, 804, 805, 806, 807, 808, 809, 810, 811, 812, 813, 814, 815, 816, 817, 818, 819, 820] rfl (by decide +kernel)
set_option maxRecDepth 20000 in
theorem gL_law_X8_cell : GoodIn wsL_law (wsV RL 109 RX8 yX8_cell wsX8_cell) := goodIn_app (goodIn_of _ (by decide +kernel)) ggL_law_X8_cell
set_option maxRecDepth 20000 in
theorem ggL_law_X7_color : GoodIn wsL_law wsX7_color := goodIn_r _ [723, 23, 41, 724, 240, 241, 2, 242, 125, 126, 127, 725, 726, 727, 22, 728, 247, 729, 730, 731, 732, 733, 347, 348, 349, 57, 734, 735, 736, 737, 397, 332, 333, 334, 738, 739, 740, 741, 742, 546, 547, 548, 398, 336, 337, 338, 399, 340, 341, 342, 344, 345, 549, 550, 743, 744, 745, 40, 746, 747, 748, 91, 749, 750, 751, 752, 753, 710, 711, 754, 755, 756, 757, 90, 758, 474, 264, 475, 780, 781, 782, 783, 784, 785, 786, 787, 788, 789, 853, 854, 855, 856, 826, 827] rfl (by decide +kernel)
set_option maxRecDepth 20000 in
theorem gL_law_X7_color : GoodIn wsL_law (wsV RL 110 RX7 yX7_color wsX7_color) := goodIn_app (goodIn_of _ (by decide +kernel)) ggL_law_X7_color
set_option maxRecDepth 20000 in
theorem ggL_law_X8_color : GoodIn wsL_law wsX8_color := goodIn_r _ [762, 96, 145, 146, 5, 147, 274, 275, 276, 277, 290, 291, 292, 293, 637, 638, 639, 640, 294, 295, 296, 297, 298, 299, 300, 301, 362, 363, 364, 641, 642, 643, 716, 717, 718, 719, 116, 763, 764, 765, 766, 790, 791, 792, 793, 794, 795, 796, 797, 798, 799, 800, 801, 802, 803, 804, 805, 806, 807, 808, 809, 810, 811, 812, 813, 814, 815, 816, 817, 818, 819, 820] rfl (by decide +kernel)
set_option maxRecDepth 20000 in
theorem gL_law_X8_color : GoodIn wsL_law (wsV RL 113 RX8 yX8_color wsX8_color) := goodIn_app (goodIn_of _ (by decide +kernel)) ggL_law_X8_color
set_option maxRecDepth 20000 in
theorem ggL_law_X7_count : GoodIn wsL_law wsX7_count := goodIn_r _ [770, 23, 239, 33, 665, 37, 679, 41, 724, 771, 15, 121, 29, 512, 529, 42, 734, 735, 736, 22, 737, 247, 729, 730, 731, 732, 733, 347, 348, 349, 57, 397, 332, 333, 334, 738, 739, 740, 741, 742, 546, 547, 548, 398, 336, 337, 338, 399, 340, 341, 342, 344, 2, 345, 549, 550, 551, 552, 553, 554, 555, 556, 557, 32, 558, 559, 560, 70, 71, 561, 263, 264, 265, 562, 474, 475, 66, 563, 477, 478, 479, 460, 461, 462, 463, 464, 564, 481, 482, 483, 469, 470, 471, 472, 473, 565, 566, 567, 568, 569, 570, 571, 572, 72, 67, 68, 69, 573, 574, 575, 576, 577, 578, 579, 36, 580, 581, 582, 76, 583, 84, 85, 86, 82, 79, 80, 81, 83, 78, 584, 585, 586, 587, 588, 77, 589, 457, 458, 459, 590, 591, 592, 593, 594, 466, 467, 468, 743, 744, 745, 40, 746, 747, 748, 91, 749, 750, 751, 752, 753, 710, 711, 754, 755, 756, 757, 90, 758, 780, 781, 782, 783, 784, 785, 786, 787, 788, 789, 826, 827, 833, 834, 835, 836, 837, 838, 839, 840, 841, 842, 843, 844, 845, 846, 847, 848, 849, 850, 851, 852, 853, 854, 855, 856, 821, 822, 823, 828, 829, 830, 831, 832] rfl (by decide +kernel)
set_option maxRecDepth 20000 in
theorem gL_law_X7_count : GoodIn wsL_law (wsV RL 114 RX7 yX7_count wsX7_count) := goodIn_app (goodIn_of _ (by decide +kernel)) ggL_law_X7_count
set_option maxRecDepth 20000 in
theorem ggL_law_X8_count : GoodIn wsL_law wsX8_count := goodIn_r _ [775, 608, 603, 141, 319, 314, 97, 599, 600, 601, 5, 602, 115, 114, 604, 605, 606, 607, 110, 111, 112, 113, 274, 275, 276, 277, 96, 609, 610, 611, 612, 298, 299, 300, 301, 294, 295, 296, 297, 290, 291, 292, 293, 613, 614, 615, 616, 617, 618, 619, 620, 621, 622, 623, 624, 625, 626, 627, 628, 629, 630, 631, 632, 633, 634, 635, 636, 716, 717, 718, 719, 116, 637, 638, 639, 640, 362, 363, 364, 641, 642, 643, 763, 764, 765, 766, 776, 777, 778, 779, 790, 791, 792, 793, 794, 795, 796, 797, 798, 799, 800, 801, 802, 803, 804, 805, 806, 807, 808, 809, 810, 811, 812, 813, 814, 815, 816, 817, 818, 819, 820] rfl (by decide +kernel)
set_option maxRecDepth 20000 in
theorem gL_law_X8_count : GoodIn wsL_law (wsV RL 117 RX8 yX8_count wsX8_count) := goodIn_app (goodIn_of _ (by decide +kernel)) ggL_law_X8_count
