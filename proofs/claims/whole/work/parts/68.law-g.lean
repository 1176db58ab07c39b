set_option maxRecDepth 20000 in
theorem ggL_law_X10_init : GoodIn wsL_law wsX10_init := goodIn_r _ [8, 9, 10, 11, 12, 13, 14, 15, 16, 17, 18, 19, 20, 21, 22, 23, 24, 25, 26, 27, 28, 29, 30, 31, 32, 33, 34, 35, 36, 37, 38, 39, 40, 41, 42, 43, 44, 45, 46, 47, 48, 49, 50, 51, 52, 53, 54, 55, 56, 57, 58, 59, 60, 61, 62, 63, 64, 65, 66, 67, 68, 69, 70, 71, 72, 73, 74, 75, 76, 77, 78, 79, 80, 81, 82, 83, 84, 85, 86, 87, 88, 89, 90, 91, 92, 93, 94, 95, 96, 97, 98, 99, 796, 797, 798, 799, 800, 801, 802, 803, 763, 764, 765, 766, 767, 768, 769, 770, 771, 772, 804, 805, 806, 807, 808, 809, 810, 811, 812, 813, 814, 815, 816, 817, 818, 819, 820, 821, 822, 823, 824, 825] (by decide +kernel) (by decide +kernel)

set_option maxRecDepth 20000 in
theorem gL_law_X10_init : GoodIn wsL_law (wsX10_init) := ggL_law_X10_init

set_option maxRecDepth 20000 in
theorem ggL_law_X11_init : GoodIn wsL_law wsX11_init := goodIn_r _ [102, 103, 10, 11, 48, 104, 105, 106, 107, 108, 109, 110, 111, 112, 113, 18, 114, 97, 115, 116, 117, 118, 773, 774, 775, 776, 777, 778, 779, 780, 781, 782, 783, 784, 785, 786, 787, 788, 789, 790, 791, 792, 793, 794, 795] (by decide +kernel) (by decide +kernel)

set_option maxRecDepth 20000 in
theorem gL_law_X11_init : GoodIn wsL_law (wsX11_init) := ggL_law_X11_init

set_option maxRecDepth 20000 in
theorem ggL_law_X10_one : GoodIn wsL_law wsX10_one := goodIn_r _ [122, 15, 123, 124, 2, 125, 126, 127, 128, 14, 129, 130, 49, 50, 131, 132, 133, 134, 51, 135, 136, 137, 138, 139, 140, 141, 142, 143, 144, 145, 146, 147, 148, 149, 150, 151, 152, 153, 763, 764, 765, 766, 767, 768, 769, 770, 771, 772, 796, 797, 798, 799, 800, 801, 802, 803] (by decide +kernel) (by decide +kernel)

set_option maxRecDepth 20000 in
theorem gL_law_X10_one : GoodIn wsL_law (wsV RL 13 RX10 yX10_one wsX10_one) := goodIn_app (goodIn_of _ (by decide +kernel)) ggL_law_X10_one

set_option maxRecDepth 20000 in
theorem ggL_law_X11_one : GoodIn wsL_law wsX11_one := goodIn_r _ [157, 104, 107, 158, 159, 160, 5, 161, 162, 163, 164, 165, 166, 167, 168, 169, 170, 171, 773, 774, 775, 776, 777, 778, 779, 780, 781, 782, 783, 784, 785, 786, 787, 788, 789, 790, 791, 792, 793, 794, 795] (by decide +kernel) (by decide +kernel)

set_option maxRecDepth 20000 in
theorem gL_law_X11_one : GoodIn wsL_law (wsV RL 17 RX11 yX11_one wsX11_one) := goodIn_app (goodIn_of _ (by decide +kernel)) ggL_law_X11_one

set_option maxRecDepth 20000 in
theorem ggL_law_X10_pair : GoodIn wsL_law wsX10_pair := goodIn_r _ [175, 15, 176, 140, 141, 14, 142, 130, 177, 136, 137, 138, 51, 139, 178, 179, 180, 181, 182, 132, 133, 134, 135, 183, 184, 185, 186, 763, 764, 765, 766, 767, 768, 769, 770, 771, 772, 796, 797, 798, 799, 800, 801, 802, 803] (by decide +kernel) (by decide +kernel)

set_option maxRecDepth 20000 in
theorem gL_law_X10_pair : GoodIn wsL_law (wsV RL 18 RX10 yX10_pair wsX10_pair) := goodIn_app (goodIn_of _ (by decide +kernel)) ggL_law_X10_pair

set_option maxRecDepth 20000 in
theorem ggL_law_X11_pair : GoodIn wsL_law wsX11_pair := goodIn_r _ [190, 104, 162, 163, 164, 5, 165, 158, 159, 160, 161, 166, 167, 168, 191, 192, 193, 194, 105, 195, 196, 197, 198, 199, 200, 773, 774, 775, 776, 777, 778, 779, 780, 781, 782, 783, 784, 785, 786, 787, 788, 789, 790, 791, 792, 793, 794, 795] (by decide +kernel) (by decide +kernel)

set_option maxRecDepth 20000 in
theorem gL_law_X11_pair : GoodIn wsL_law (wsV RL 22 RX11 yX11_pair wsX11_pair) := goodIn_app (goodIn_of _ (by decide +kernel)) ggL_law_X11_pair

set_option maxRecDepth 20000 in
theorem ggL_law_X10_horn : GoodIn wsL_law wsX10_horn := goodIn_r _ [204, 15, 205, 123, 124, 2, 125, 763, 764, 765, 766, 767, 768, 769, 770, 771, 772, 796, 797, 798, 799, 800, 801, 802, 803] (by decide +kernel) (by decide +kernel)

set_option maxRecDepth 20000 in
theorem gL_law_X10_horn : GoodIn wsL_law (wsV RL 23 RX10 yX10_horn wsX10_horn) := goodIn_app (goodIn_of _ (by decide +kernel)) ggL_law_X10_horn

set_option maxRecDepth 20000 in
theorem ggL_law_X11_horn : GoodIn wsL_law wsX11_horn := goodIn_r _ [209, 104, 159, 160, 5, 161, 773, 774, 775, 776, 777, 778, 779, 780, 781, 782, 783, 784, 785, 786, 787, 788, 789, 790, 791, 792, 793, 794, 795] (by decide +kernel) (by decide +kernel)

set_option maxRecDepth 20000 in
theorem gL_law_X11_horn : GoodIn wsL_law (wsV RL 27 RX11 yX11_horn wsX11_horn) := goodIn_app (goodIn_of _ (by decide +kernel)) ggL_law_X11_horn

set_option maxRecDepth 20000 in
theorem ggL_law_X10_say : GoodIn wsL_law wsX10_say := goodIn_r _ [213, 23, 214, 123, 124, 2, 125, 215, 216, 217, 22, 218, 219, 67, 763, 764, 765, 766, 767, 768, 769, 770, 771, 772, 804, 805] (by decide +kernel) (by decide +kernel)

set_option maxRecDepth 20000 in
theorem gL_law_X10_say : GoodIn wsL_law (wsV RL 28 RX10 yX10_say wsX10_say) := goodIn_app (goodIn_of _ (by decide +kernel)) ggL_law_X10_say

set_option maxRecDepth 20000 in
theorem ggL_law_X11_say : GoodIn wsL_law wsX11_say := goodIn_r _ [223, 224, 109, 159, 160, 5, 161, 773, 774, 775, 776, 777, 778, 779, 780, 781, 782, 783, 784, 785, 786, 787, 788, 789, 790, 791, 792, 793, 794, 795] (by decide +kernel) (by decide +kernel)

set_option maxRecDepth 20000 in
theorem gL_law_X11_say : GoodIn wsL_law (wsV RL 31 RX11 yX11_say wsX11_say) := goodIn_app (goodIn_of _ (by decide +kernel)) ggL_law_X11_say

set_option maxRecDepth 20000 in
theorem ggL_law_X10_wipe : GoodIn wsL_law wsX10_wipe := goodIn_r _ [228, 23, 214, 763, 764, 765, 766, 767, 768, 769, 770, 771, 772, 804, 805] (by decide +kernel) (by decide +kernel)

set_option maxRecDepth 20000 in
theorem gL_law_X10_wipe : GoodIn wsL_law (wsV RL 32 RX10 yX10_wipe wsX10_wipe) := goodIn_app (goodIn_of _ (by decide +kernel)) ggL_law_X10_wipe

set_option maxRecDepth 20000 in
theorem ggL_law_X11_wipe : GoodIn wsL_law wsX11_wipe := goodIn_r _ [232, 224, 773, 774, 775, 776, 777, 778, 779, 780, 781, 782, 783, 784, 785, 786, 787, 788, 789, 790, 791, 792, 793, 794, 795] (by decide +kernel) (by decide +kernel)

set_option maxRecDepth 20000 in
theorem gL_law_X11_wipe : GoodIn wsL_law (wsV RL 36 RX11 yX11_wipe wsX11_wipe) := goodIn_app (goodIn_of _ (by decide +kernel)) ggL_law_X11_wipe

set_option maxRecDepth 20000 in
theorem ggL_law_X10_fault : GoodIn wsL_law wsX10_fault := goodIn_r _ [236, 23, 237, 238, 239, 22, 240, 219, 241, 242, 243, 244, 245, 246, 247, 248, 67, 249, 250, 251, 252, 253, 254, 255, 256, 257, 258, 259, 260, 261, 262, 263, 264, 265, 266, 763, 764, 765, 766, 767, 768, 769, 770, 771, 772, 804, 805] (by decide +kernel) (by decide +kernel)

set_option maxRecDepth 20000 in
theorem gL_law_X10_fault : GoodIn wsL_law (wsV RL 37 RX10 yX10_fault wsX10_fault) := goodIn_app (goodIn_of _ (by decide +kernel)) ggL_law_X10_fault

set_option maxRecDepth 20000 in
theorem ggL_law_X11_fault : GoodIn wsL_law wsX11_fault := goodIn_r _ [270, 271, 272, 273, 5, 274, 224, 109, 159, 160, 161, 773, 774, 775, 776, 777, 778, 779, 780, 781, 782, 783, 784, 785, 786, 787, 788, 789, 790, 791, 792, 793, 794, 795] (by decide +kernel) (by decide +kernel)

set_option maxRecDepth 20000 in
theorem gL_law_X11_fault : GoodIn wsL_law (wsV RL 40 RX11 yX11_fault wsX11_fault) := goodIn_app (goodIn_of _ (by decide +kernel)) ggL_law_X11_fault

set_option maxRecDepth 20000 in
theorem ggL_law_X10_judge : GoodIn wsL_law wsX10_judge := goodIn_r _ [278, 23, 27, 15, 279, 280, 123, 124, 2, 125, 237, 238, 239, 22, 240, 219, 241, 242, 243, 244, 245, 246, 247, 248, 67, 249, 250, 251, 252, 253, 254, 255, 256, 257, 258, 259, 260, 261, 262, 263, 264, 265, 266, 281, 282, 283, 26, 284, 285, 73, 286, 287, 288, 289, 290, 291, 292, 293, 74, 294, 295, 296, 14, 297, 49, 50, 51, 56, 130, 298, 299, 300, 301, 302, 55, 303, 61, 62, 304, 305, 306, 307, 308, 309, 310, 311, 312, 313, 314, 315, 316, 317, 139, 140, 141, 142, 135, 136, 137, 138, 318, 319, 320, 321, 322, 323, 324, 325, 326, 327, 328, 329, 330, 331, 332, 333, 334, 335, 336, 337, 338, 339, 340, 341, 342, 343, 344, 179, 180, 181, 131, 132, 133, 134, 345, 346, 347, 348, 52, 349, 350, 351, 352, 353, 763, 764, 765, 766, 767, 768, 769, 770, 771, 772, 806, 807, 808, 809, 810, 811, 804, 805, 796, 797, 798, 799, 800, 801, 802, 803, 823, 824, 825] (by decide +kernel) (by decide +kernel)

set_option maxRecDepth 20000 in
theorem gL_law_X10_judge : GoodIn wsL_law (wsV RL 41 RX10 yX10_judge wsX10_judge) := goodIn_app (goodIn_of _ (by decide +kernel)) ggL_law_X10_judge

set_option maxRecDepth 20000 in
theorem ggL_law_X11_judge : GoodIn wsL_law wsX11_judge := goodIn_r _ [357, 358, 159, 160, 5, 161, 271, 272, 273, 274, 224, 109, 359, 360, 361, 362, 363, 195, 105, 196, 191, 192, 193, 194, 104, 364, 365, 366, 367, 106, 107, 368, 369, 370, 162, 163, 164, 165, 158, 166, 167, 168, 371, 372, 373, 374, 375, 376, 377, 378, 379, 380, 381, 382, 383, 384, 385, 386, 387, 388, 389, 390, 773, 774, 775, 776, 777, 778, 779, 780, 781, 782, 783, 784, 785, 786, 787, 788, 789, 790, 791, 792, 793, 794, 795] (by decide +kernel) (by decide +kernel)

set_option maxRecDepth 20000 in
theorem gL_law_X11_judge : GoodIn wsL_law (wsV RL 44 RX11 yX11_judge wsX11_judge) := goodIn_app (goodIn_of _ (by decide +kernel)) ggL_law_X11_judge

set_option maxRecDepth 20000 in
theorem ggL_law_X10_done : GoodIn wsL_law wsX10_done := goodIn_r _ [394, 15, 27, 395, 23, 214, 280, 396, 397, 398, 2, 399, 279, 237, 238, 239, 22, 240, 219, 241, 242, 243, 244, 245, 246, 247, 248, 67, 249, 250, 251, 252, 253, 254, 255, 256, 257, 258, 259, 260, 261, 262, 263, 264, 265, 266, 281, 282, 283, 26, 284, 285, 73, 286, 287, 288, 289, 290, 291, 292, 293, 74, 294, 295, 296, 14, 297, 49, 50, 51, 56, 130, 298, 299, 300, 301, 302, 55, 303, 61, 62, 304, 305, 306, 307, 308, 309, 310, 311, 312, 313, 314, 315, 316, 317, 139, 140, 141, 142, 135, 136, 137, 138, 318, 319, 320, 321, 322, 323, 324, 325, 326, 327, 328, 329, 330, 331, 332, 333, 334, 335, 336, 337, 338, 339, 340, 341, 342, 343, 344, 179, 180, 181, 131, 132, 133, 134, 345, 346, 347, 348, 52, 349, 350, 351, 352, 353, 400, 763, 764, 765, 766, 767, 768, 769, 770, 771, 772, 806, 807, 808, 809, 810, 811, 804, 805, 796, 797, 798, 799, 800, 801, 802, 803, 823, 824, 825] (by decide +kernel) (by decide +kernel)

set_option maxRecDepth 20000 in
theorem gL_law_X10_done : GoodIn wsL_law (wsV RL 45 RX10 yX10_done wsX10_done) := goodIn_app (goodIn_of _ (by decide +kernel)) ggL_law_X10_done

set_option maxRecDepth 20000 in
theorem ggL_law_X11_done : GoodIn wsL_law wsX11_done := goodIn_r _ [404, 104, 105, 224, 363, 405, 406, 407, 5, 408, 271, 272, 273, 274, 109, 159, 160, 161, 359, 360, 361, 362, 358, 195, 196, 191, 192, 193, 194, 364, 365, 366, 367, 106, 107, 368, 369, 370, 162, 163, 164, 165, 158, 166, 167, 168, 371, 372, 373, 374, 375, 376, 377, 378, 379, 380, 381, 382, 383, 384, 385, 386, 387, 388, 389, 390, 773, 774, 775, 776, 777, 778, 779, 780, 781, 782, 783, 784, 785, 786, 787, 788, 789, 790, 791, 792, 793, 794, 795] (by decide +kernel) (by decide +kernel)

set_option maxRecDepth 20000 in
theorem gL_law_X11_done : GoodIn wsL_law (wsV RL 48 RX11 yX11_done wsX11_done) := goodIn_app (goodIn_of _ (by decide +kernel)) ggL_law_X11_done

set_option maxRecDepth 20000 in
theorem ggL_law_X10_behind : GoodIn wsL_law wsX10_behind := goodIn_r _ [412, 15, 27, 395, 176, 140, 141, 14, 142, 130, 123, 124, 2, 125, 396, 397, 398, 399, 23, 279, 237, 238, 239, 22, 240, 219, 241, 242, 243, 244, 245, 246, 247, 248, 67, 249, 250, 251, 252, 253, 254, 255, 256, 257, 258, 259, 260, 261, 262, 263, 264, 265, 266, 281, 282, 283, 26, 284, 285, 73, 286, 287, 288, 289, 290, 291, 292, 293, 74, 294, 295, 296, 297, 49, 50, 51, 56, 298, 299, 300, 301, 302, 55, 303, 61, 62, 304, 305, 306, 307, 308, 309, 310, 311, 312, 313, 314, 315, 316, 317, 139, 135, 136, 137, 138, 318, 319, 320, 321, 322, 323, 324, 325, 326, 327, 328, 329, 330, 331, 332, 333, 334, 335, 336, 337, 338, 339, 340, 341, 342, 343, 344, 179, 180, 181, 131, 132, 133, 134, 345, 346, 347, 348, 52, 349, 350, 351, 352, 353, 413, 177, 414, 415, 416, 417, 763, 764, 765, 766, 767, 768, 769, 770, 771, 772, 806, 807, 808, 809, 810, 811, 796, 797, 798, 799, 800, 801, 802, 803, 804, 805, 823, 824, 825] (by decide +kernel) (by decide +kernel)

set_option maxRecDepth 20000 in
theorem gL_law_X10_behind : GoodIn wsL_law (wsV RL 49 RX10 yX10_behind wsX10_behind) := goodIn_app (goodIn_of _ (by decide +kernel)) ggL_law_X10_behind

set_option maxRecDepth 20000 in
theorem ggL_law_X11_behind : GoodIn wsL_law wsX11_behind := goodIn_r _ [421, 105, 162, 163, 164, 5, 165, 158, 159, 160, 161, 166, 167, 168, 405, 406, 407, 408, 271, 272, 273, 274, 224, 109, 359, 360, 361, 362, 363, 358, 195, 196, 191, 192, 193, 194, 104, 364, 365, 366, 367, 106, 107, 368, 369, 370, 371, 372, 373, 374, 375, 376, 377, 378, 379, 380, 381, 382, 383, 384, 385, 386, 387, 388, 389, 390, 773, 774, 775, 776, 777, 778, 779, 780, 781, 782, 783, 784, 785, 786, 787, 788, 789, 790, 791, 792, 793, 794, 795] (by decide +kernel) (by decide +kernel)

set_option maxRecDepth 20000 in
theorem gL_law_X11_behind : GoodIn wsL_law (wsV RL 53 RX11 yX11_behind wsX11_behind) := goodIn_app (goodIn_of _ (by decide +kernel)) ggL_law_X11_behind

set_option maxRecDepth 20000 in
theorem ggL_law_X10_then : GoodIn wsL_law wsX10_then := goodIn_r _ [425, 27, 395, 205, 426, 427, 428, 123, 124, 2, 125, 396, 397, 398, 399, 23, 15, 279, 237, 238, 239, 22, 240, 219, 241, 242, 243, 244, 245, 246, 247, 248, 67, 249, 250, 251, 252, 253, 254, 255, 256, 257, 258, 259, 260, 261, 262, 263, 264, 265, 266, 281, 282, 283, 26, 284, 285, 73, 286, 287, 288, 289, 290, 291, 292, 293, 74, 294, 295, 296, 14, 297, 49, 50, 51, 56, 130, 298, 299, 300, 301, 302, 55, 303, 61, 62, 304, 305, 306, 307, 308, 309, 310, 311, 312, 313, 314, 315, 316, 317, 139, 140, 141, 142, 135, 136, 137, 138, 318, 319, 320, 321, 322, 323, 324, 325, 326, 327, 328, 329, 330, 331, 332, 333, 334, 335, 336, 337, 338, 339, 340, 341, 342, 343, 344, 179, 180, 181, 131, 132, 133, 134, 345, 346, 347, 348, 52, 349, 350, 351, 352, 353, 183, 184, 185, 186, 763, 764, 765, 766, 767, 768, 769, 770, 771, 772, 806, 807, 808, 809, 810, 811, 796, 797, 798, 799, 800, 801, 802, 803, 804, 805, 823, 824, 825] (by decide +kernel) (by decide +kernel)

set_option maxRecDepth 20000 in
theorem gL_law_X10_then : GoodIn wsL_law (wsV RL 54 RX10 yX10_then wsX10_then) := goodIn_app (goodIn_of _ (by decide +kernel)) ggL_law_X10_then

set_option maxRecDepth 20000 in
theorem ggL_law_X11_then : GoodIn wsL_law wsX11_then := goodIn_r _ [432, 105, 195, 196, 159, 160, 5, 161, 405, 406, 407, 408, 271, 272, 273, 274, 224, 109, 359, 360, 361, 362, 363, 358, 191, 192, 193, 194, 104, 364, 365, 366, 367, 106, 107, 368, 369, 370, 162, 163, 164, 165, 158, 166, 167, 168, 371, 372, 373, 374, 375, 376, 377, 378, 379, 380, 381, 382, 383, 384, 385, 386, 387, 388, 389, 390, 197, 198, 199, 200, 773, 774, 775, 776, 777, 778, 779, 780, 781, 782, 783, 784, 785, 786, 787, 788, 789, 790, 791, 792, 793, 794, 795] (by decide +kernel) (by decide +kernel)

set_option maxRecDepth 20000 in
theorem gL_law_X11_then : GoodIn wsL_law (wsV RL 57 RX11 yX11_then wsX11_then) := goodIn_app (goodIn_of _ (by decide +kernel)) ggL_law_X11_then

set_option maxRecDepth 20000 in
theorem ggL_law_X10_apart : GoodIn wsL_law wsX10_apart := goodIn_r _ [436, 15, 176, 140, 141, 14, 142, 130, 437, 438, 439, 440, 326, 327, 328, 329, 49, 139, 441, 442, 332, 443, 444, 445, 446, 447, 448, 331, 333, 763, 764, 765, 766, 767, 768, 769, 770, 771, 772, 796, 797, 798, 799, 800, 801, 802, 803] (by decide +kernel) (by decide +kernel)

set_option maxRecDepth 20000 in
theorem gL_law_X10_apart : GoodIn wsL_law (wsV RL 58 RX10 yX10_apart wsX10_apart) := goodIn_app (goodIn_of _ (by decide +kernel)) ggL_law_X10_apart

set_option maxRecDepth 20000 in
theorem ggL_law_X11_apart : GoodIn wsL_law wsX11_apart := goodIn_r _ [452, 104, 162, 163, 164, 5, 165, 158, 159, 160, 161, 166, 167, 168, 453, 454, 455, 368, 369, 370, 773, 774, 775, 776, 777, 778, 779, 780, 781, 782, 783, 784, 785, 786, 787, 788, 789, 790, 791, 792, 793, 794, 795] (by decide +kernel) (by decide +kernel)

set_option maxRecDepth 20000 in
theorem gL_law_X11_apart : GoodIn wsL_law (wsV RL 61 RX11 yX11_apart wsX11_apart) := goodIn_app (goodIn_of _ (by decide +kernel)) ggL_law_X11_apart

set_option maxRecDepth 20000 in
theorem ggL_law_X10_triangles : GoodIn wsL_law wsX10_triangles := goodIn_r _ [459, 15, 123, 124, 2, 125, 460, 461, 462, 463, 464, 465, 466, 467, 468, 148, 149, 150, 151, 152, 153, 469, 470, 471, 472, 438, 439, 14, 440, 326, 327, 328, 329, 49, 139, 140, 141, 142, 130, 441, 442, 332, 443, 444, 445, 446, 447, 448, 331, 333, 473, 474, 475, 763, 764, 765, 766, 767, 768, 769, 770, 771, 772, 796, 797, 798, 799, 800, 801, 802, 803] (by decide +kernel) (by decide +kernel)

set_option maxRecDepth 20000 in
theorem gL_law_X10_triangles : GoodIn wsL_law (wsV RL 62 RX10 yX10_triangles wsX10_triangles) := goodIn_app (goodIn_of _ (by decide +kernel)) ggL_law_X10_triangles

set_option maxRecDepth 20000 in
theorem ggL_law_X11_triangles : GoodIn wsL_law wsX11_triangles := goodIn_r _ [479, 480, 159, 160, 5, 161, 191, 192, 193, 194, 105, 104, 195, 196, 481, 482, 483, 484, 162, 163, 164, 165, 158, 166, 167, 168, 453, 454, 455, 368, 369, 370, 773, 774, 775, 776, 777, 778, 779, 780, 781, 782, 783, 784, 785, 786, 787, 788, 789, 790, 791, 792, 793, 794, 795] (by decide +kernel) (by decide +kernel)

set_option maxRecDepth 20000 in
theorem gL_law_X11_triangles : GoodIn wsL_law (wsV RL 65 RX11 yX11_triangles wsX11_triangles) := goodIn_app (goodIn_of _ (by decide +kernel)) ggL_law_X11_triangles

set_option maxRecDepth 20000 in
theorem ggL_law_X10_bring : GoodIn wsL_law wsX10_bring := goodIn_r _ [488, 15, 31, 176, 140, 141, 14, 142, 130, 123, 124, 2, 125, 489, 490, 491, 30, 492, 80, 81, 82, 493, 494, 495, 496, 497, 331, 332, 333, 498, 499, 500, 501, 413, 327, 328, 329, 49, 139, 502, 503, 504, 505, 506, 763, 764, 765, 766, 767, 768, 769, 770, 771, 772, 796, 797, 798, 799, 800, 801, 802, 803, 812, 813, 814] (by decide +kernel) (by decide +kernel)

set_option maxRecDepth 20000 in
theorem gL_law_X10_bring : GoodIn wsL_law (wsV RL 66 RX10 yX10_bring wsX10_bring) := goodIn_app (goodIn_of _ (by decide +kernel)) ggL_law_X10_bring

set_option maxRecDepth 20000 in
theorem ggL_law_X11_bring : GoodIn wsL_law wsX11_bring := goodIn_r _ [510, 110, 104, 111, 162, 163, 164, 5, 165, 158, 159, 160, 161, 166, 167, 168, 368, 369, 370, 773, 774, 775, 776, 777, 778, 779, 780, 781, 782, 783, 784, 785, 786, 787, 788, 789, 790, 791, 792, 793, 794, 795] (by decide +kernel) (by decide +kernel)

set_option maxRecDepth 20000 in
theorem gL_law_X11_bring : GoodIn wsL_law (wsV RL 70 RX11 yX11_bring wsX11_bring) := goodIn_app (goodIn_of _ (by decide +kernel)) ggL_law_X11_bring

set_option maxRecDepth 20000 in
theorem ggL_law_X10_lean : GoodIn wsL_law wsX10_lean := goodIn_r _ [514, 15, 123, 124, 2, 125, 515, 516, 462, 517, 518, 519, 520, 521, 140, 141, 14, 142, 130, 522, 327, 328, 329, 49, 139, 523, 442, 332, 443, 444, 445, 446, 447, 448, 331, 333, 524, 763, 764, 765, 766, 767, 768, 769, 770, 771, 772, 796, 797, 798, 799, 800, 801, 802, 803] (by decide +kernel) (by decide +kernel)

set_option maxRecDepth 20000 in
theorem gL_law_X10_lean : GoodIn wsL_law (wsV RL 71 RX10 yX10_lean wsX10_lean) := goodIn_app (goodIn_of _ (by decide +kernel)) ggL_law_X10_lean

set_option maxRecDepth 20000 in
theorem ggL_law_X11_lean : GoodIn wsL_law wsX11_lean := goodIn_r _ [528, 529, 104, 159, 160, 5, 161, 162, 163, 164, 165, 158, 166, 167, 168, 453, 454, 455, 368, 369, 370, 773, 774, 775, 776, 777, 778, 779, 780, 781, 782, 783, 784, 785, 786, 787, 788, 789, 790, 791, 792, 793, 794, 795] (by decide +kernel) (by decide +kernel)

set_option maxRecDepth 20000 in
theorem gL_law_X11_lean : GoodIn wsL_law (wsV RL 74 RX11 yX11_lean wsX11_lean) := goodIn_app (goodIn_of _ (by decide +kernel)) ggL_law_X11_lean

set_option maxRecDepth 20000 in
theorem ggL_law_X10_bisect : GoodIn wsL_law wsX10_bisect := goodIn_r _ [533, 15, 123, 124, 2, 125, 534, 535, 462, 536, 467, 537, 538, 539, 468, 148, 149, 150, 151, 152, 153, 540, 541, 542, 543, 544, 545, 469, 470, 471, 472, 438, 439, 14, 440, 326, 327, 328, 329, 49, 139, 140, 141, 142, 130, 441, 442, 332, 443, 444, 445, 446, 447, 448, 331, 333, 546, 763, 764, 765, 766, 767, 768, 769, 770, 771, 772, 796, 797, 798, 799, 800, 801, 802, 803] (by decide +kernel) (by decide +kernel)

set_option maxRecDepth 20000 in
theorem gL_law_X10_bisect : GoodIn wsL_law (wsV RL 75 RX10 yX10_bisect wsX10_bisect) := goodIn_app (goodIn_of _ (by decide +kernel)) ggL_law_X10_bisect

set_option maxRecDepth 20000 in
theorem ggL_law_X11_bisect : GoodIn wsL_law wsX11_bisect := goodIn_r _ [550, 158, 529, 104, 159, 160, 5, 161, 162, 163, 164, 165, 166, 167, 168, 169, 170, 171, 453, 454, 455, 368, 369, 370, 773, 774, 775, 776, 777, 778, 779, 780, 781, 782, 783, 784, 785, 786, 787, 788, 789, 790, 791, 792, 793, 794, 795] (by decide +kernel) (by decide +kernel)

set_option maxRecDepth 20000 in
theorem gL_law_X11_bisect : GoodIn wsL_law (wsV RL 78 RX11 yX11_bisect wsX11_bisect) := goodIn_app (goodIn_of _ (by decide +kernel)) ggL_law_X11_bisect

set_option maxRecDepth 20000 in
theorem ggL_law_X10_meet : GoodIn wsL_law wsX10_meet := goodIn_r _ [554, 15, 176, 140, 141, 14, 142, 130, 555, 556, 462, 557, 522, 327, 328, 329, 49, 139, 558, 559, 560, 561, 50, 562, 331, 332, 333, 763, 764, 765, 766, 767, 768, 769, 770, 771, 772, 796, 797, 798, 799, 800, 801, 802, 803] (by decide +kernel) (by decide +kernel)

set_option maxRecDepth 20000 in
theorem gL_law_X10_meet : GoodIn wsL_law (wsV RL 79 RX10 yX10_meet wsX10_meet) := goodIn_app (goodIn_of _ (by decide +kernel)) ggL_law_X10_meet

set_option maxRecDepth 20000 in
theorem ggL_law_X11_meet : GoodIn wsL_law wsX11_meet := goodIn_r _ [566, 104, 107, 162, 163, 164, 5, 165, 158, 159, 160, 161, 166, 167, 168, 368, 369, 370, 773, 774, 775, 776, 777, 778, 779, 780, 781, 782, 783, 784, 785, 786, 787, 788, 789, 790, 791, 792, 793, 794, 795] (by decide +kernel) (by decide +kernel)

set_option maxRecDepth 20000 in
theorem gL_law_X11_meet : GoodIn wsL_law (wsV RL 82 RX11 yX11_meet wsX11_meet) := goodIn_app (goodIn_of _ (by decide +kernel)) ggL_law_X11_meet

set_option maxRecDepth 20000 in
theorem ggL_law_X10_chalk : GoodIn wsL_law wsX10_chalk := goodIn_r _ [570, 15, 571, 572, 123, 124, 2, 125, 573, 574, 575, 55, 576, 304, 61, 62, 763, 764, 765, 766, 767, 768, 769, 770, 771, 772, 796, 797, 798, 799, 800, 801, 802, 803, 823, 824, 825] (by decide +kernel) (by decide +kernel)

set_option maxRecDepth 20000 in
theorem gL_law_X10_chalk : GoodIn wsL_law (wsV RL 83 RX10 yX10_chalk wsX10_chalk) := goodIn_app (goodIn_of _ (by decide +kernel)) ggL_law_X10_chalk

set_option maxRecDepth 20000 in
theorem ggL_law_X11_chalk : GoodIn wsL_law wsX11_chalk := goodIn_r _ [580, 581, 108, 159, 160, 5, 161, 773, 774, 775, 776, 777, 778, 779, 780, 781, 782, 783, 784, 785, 786, 787, 788, 789, 790, 791, 792, 793, 794, 795] (by decide +kernel) (by decide +kernel)

set_option maxRecDepth 20000 in
theorem gL_law_X11_chalk : GoodIn wsL_law (wsV RL 86 RX11 yX11_chalk wsX11_chalk) := goodIn_app (goodIn_of _ (by decide +kernel)) ggL_law_X11_chalk

set_option maxRecDepth 20000 in
theorem ggL_law_X10_forget : GoodIn wsL_law wsX10_forget := goodIn_r _ [585, 15, 571, 572, 763, 764, 765, 766, 767, 768, 769, 770, 771, 772, 796, 797, 798, 799, 800, 801, 802, 803, 823, 824, 825] (by decide +kernel) (by decide +kernel)

set_option maxRecDepth 20000 in
theorem gL_law_X10_forget : GoodIn wsL_law (wsV RL 87 RX10 yX10_forget wsX10_forget) := goodIn_app (goodIn_of _ (by decide +kernel)) ggL_law_X10_forget

set_option maxRecDepth 20000 in
theorem ggL_law_X11_forget : GoodIn wsL_law wsX11_forget := goodIn_r _ [589, 581, 773, 774, 775, 776, 777, 778, 779, 780, 781, 782, 783, 784, 785, 786, 787, 788, 789, 790, 791, 792, 793, 794, 795] (by decide +kernel) (by decide +kernel)

set_option maxRecDepth 20000 in
theorem gL_law_X11_forget : GoodIn wsL_law (wsV RL 90 RX11 yX11_forget wsX11_forget) := goodIn_app (goodIn_of _ (by decide +kernel)) ggL_law_X11_forget

set_option maxRecDepth 20000 in
theorem ggL_law_X10_was : GoodIn wsL_law wsX10_was := goodIn_r _ [593, 15, 571, 123, 124, 2, 125, 594, 595, 596, 55, 597, 598, 599, 600, 601, 304, 61, 62, 602, 331, 332, 333, 603, 604, 605, 606, 763, 764, 765, 766, 767, 768, 769, 770, 771, 772, 796, 797, 798, 799, 800, 801, 802, 803, 823, 824, 825] (by decide +kernel) (by decide +kernel)

set_option maxRecDepth 20000 in
theorem gL_law_X10_was : GoodIn wsL_law (wsV RL 91 RX10 yX10_was wsX10_was) := goodIn_app (goodIn_of _ (by decide +kernel)) ggL_law_X10_was

set_option maxRecDepth 20000 in
theorem ggL_law_X11_was : GoodIn wsL_law wsX11_was := goodIn_r _ [610, 159, 160, 5, 161, 611, 612, 613, 614, 581, 108, 615, 616, 617, 368, 369, 370, 773, 774, 775, 776, 777, 778, 779, 780, 781, 782, 783, 784, 785, 786, 787, 788, 789, 790, 791, 792, 793, 794, 795] (by decide +kernel) (by decide +kernel)

set_option maxRecDepth 20000 in
theorem gL_law_X11_was : GoodIn wsL_law (wsV RL 94 RX11 yX11_was wsX11_was) := goodIn_app (goodIn_of _ (by decide +kernel)) ggL_law_X11_was

set_option maxRecDepth 20000 in
theorem ggL_law_X10_ask : GoodIn wsL_law wsX10_ask := goodIn_r _ [621, 35, 15, 571, 622, 623, 123, 124, 2, 125, 624, 625, 626, 34, 627, 628, 629, 630, 595, 596, 55, 597, 598, 599, 600, 601, 304, 61, 62, 602, 331, 332, 333, 631, 632, 633, 634, 87, 635, 636, 446, 637, 638, 639, 763, 764, 765, 766, 767, 768, 769, 770, 771, 772, 796, 797, 798, 799, 800, 801, 802, 803, 815, 816, 817, 823, 824, 825] (by decide +kernel) (by decide +kernel)

set_option maxRecDepth 20000 in
theorem gL_law_X10_ask : GoodIn wsL_law (wsV RL 95 RX10 yX10_ask wsX10_ask) := goodIn_app (goodIn_of _ (by decide +kernel)) ggL_law_X10_ask

set_option maxRecDepth 20000 in
theorem ggL_law_X11_ask : GoodIn wsL_law wsX11_ask := goodIn_r _ [643, 113, 529, 112, 159, 160, 5, 161, 611, 612, 613, 614, 581, 108, 615, 616, 617, 368, 369, 370, 773, 774, 775, 776, 777, 778, 779, 780, 781, 782, 783, 784, 785, 786, 787, 788, 789, 790, 791, 792, 793, 794, 795] (by decide +kernel) (by decide +kernel)

set_option maxRecDepth 20000 in
theorem gL_law_X11_ask : GoodIn wsL_law (wsV RL 98 RX11 yX11_ask wsX11_ask) := goodIn_app (goodIn_of _ (by decide +kernel)) ggL_law_X11_ask

set_option maxRecDepth 20000 in
theorem ggL_law_X10_take : GoodIn wsL_law wsX10_take := goodIn_r _ [647, 39, 123, 124, 2, 125, 648, 649, 650, 38, 651, 92, 652, 653, 654, 655, 656, 636, 446, 637, 657, 658, 659, 660, 763, 764, 765, 766, 767, 768, 769, 770, 771, 772, 818] (by decide +kernel) (by decide +kernel)

set_option maxRecDepth 20000 in
theorem gL_law_X10_take : GoodIn wsL_law (wsV RL 99 RX10 yX10_take wsX10_take) := goodIn_app (goodIn_of _ (by decide +kernel)) ggL_law_X10_take

set_option maxRecDepth 20000 in
theorem ggL_law_X11_take : GoodIn wsL_law wsX11_take := goodIn_r _ [664, 114, 159, 160, 5, 161, 773, 774, 775, 776, 777, 778, 779, 780, 781, 782, 783, 784, 785, 786, 787, 788, 789, 790, 791, 792, 793, 794, 795] (by decide +kernel) (by decide +kernel)

set_option maxRecDepth 20000 in
theorem gL_law_X11_take : GoodIn wsL_law (wsV RL 102 RX11 yX11_take wsX11_take) := goodIn_app (goodIn_of _ (by decide +kernel)) ggL_law_X11_take

set_option maxRecDepth 20000 in
theorem ggL_law_X10_cock : GoodIn wsL_law wsX10_cock := goodIn_r _ [668, 669, 43, 123, 124, 2, 125, 670, 671, 672, 42, 673, 674, 636, 446, 637, 675, 445, 447, 676, 677, 98, 678, 679, 680, 681, 99, 682, 683, 684, 685, 686, 687, 688, 689, 690, 691, 692, 693, 694, 695, 696, 697, 698, 699, 700, 701, 763, 764, 765, 766, 767, 768, 769, 770, 771, 772, 819, 820, 821, 822] (by decide +kernel) (by decide +kernel)

set_option maxRecDepth 20000 in
theorem gL_law_X10_cock : GoodIn wsL_law (wsV RL 103 RX10 yX10_cock wsX10_cock) := goodIn_app (goodIn_of _ (by decide +kernel)) ggL_law_X10_cock

set_option maxRecDepth 20000 in
theorem ggL_law_X11_cock : GoodIn wsL_law wsX11_cock := goodIn_r _ [705, 706, 115, 707, 116, 159, 160, 5, 161, 773, 774, 775, 776, 777, 778, 779, 780, 781, 782, 783, 784, 785, 786, 787, 788, 789, 790, 791, 792, 793, 794, 795] (by decide +kernel) (by decide +kernel)

set_option maxRecDepth 20000 in
theorem gL_law_X11_cock : GoodIn wsL_law (wsV RL 107 RX11 yX11_cock wsX11_cock) := goodIn_app (goodIn_of _ (by decide +kernel)) ggL_law_X11_cock

set_option maxRecDepth 20000 in
theorem ggL_law_X10_book : GoodIn wsL_law wsX10_book := goodIn_r _ [711, 27, 15, 395, 123, 124, 2, 125, 712, 713, 714, 26, 715, 716, 73, 288, 289, 290, 291, 287, 286, 292, 293, 74, 294, 295, 296, 14, 297, 49, 50, 51, 56, 130, 298, 299, 300, 301, 302, 55, 303, 61, 62, 304, 717, 718, 719, 314, 315, 316, 317, 139, 140, 141, 142, 135, 136, 137, 138, 336, 337, 338, 339, 340, 341, 342, 343, 330, 331, 332, 333, 344, 179, 180, 181, 131, 132, 133, 134, 345, 346, 347, 348, 52, 349, 350, 351, 352, 720, 721, 722, 723, 326, 327, 328, 329, 183, 184, 185, 186, 460, 461, 462, 463, 464, 465, 466, 467, 468, 148, 149, 150, 151, 152, 153, 469, 470, 471, 472, 438, 439, 440, 441, 442, 443, 444, 445, 446, 447, 448, 763, 764, 765, 766, 767, 768, 769, 770, 771, 772, 806, 807, 808, 809, 810, 811, 796, 797, 798, 799, 800, 801, 802, 803, 823, 824, 825] (by decide +kernel) (by decide +kernel)

set_option maxRecDepth 20000 in
theorem gL_law_X10_book : GoodIn wsL_law (wsV RL 108 RX10 yX10_book wsX10_book) := goodIn_app (goodIn_of _ (by decide +kernel)) ggL_law_X10_book

set_option maxRecDepth 20000 in
theorem ggL_law_X11_book : GoodIn wsL_law wsX11_book := goodIn_r _ [727, 728, 358, 105, 159, 160, 5, 161, 191, 192, 193, 194, 104, 195, 196, 375, 376, 377, 378, 162, 163, 164, 165, 158, 166, 167, 168, 368, 369, 370, 379, 380, 381, 382, 383, 384, 385, 386, 364, 365, 366, 367, 106, 107, 197, 198, 199, 200, 481, 482, 483, 484, 480, 453, 454, 455, 773, 774, 775, 776, 777, 778, 779, 780, 781, 782, 783, 784, 785, 786, 787, 788, 789, 790, 791, 792, 793, 794, 795] (by decide +kernel) (by decide +kernel)

set_option maxRecDepth 20000 in
theorem gL_law_X11_book : GoodIn wsL_law (wsV RL 111 RX11 yX11_book wsX11_book) := goodIn_app (goodIn_of _ (by decide +kernel)) ggL_law_X11_book

set_option maxRecDepth 20000 in
theorem ggL_law_X10_image : GoodIn wsL_law wsX10_image := goodIn_r _ [732, 15, 19, 123, 124, 2, 125, 733, 734, 735, 736, 16, 17, 400, 295, 296, 14, 297, 49, 50, 51, 56, 130, 298, 299, 300, 301, 302, 55, 303, 61, 62, 304, 763, 764, 765, 766, 767, 768, 769, 770, 771, 772, 796, 797, 798, 799, 800, 801, 802, 803, 823, 824, 825] (by decide +kernel) (by decide +kernel)

set_option maxRecDepth 20000 in
theorem gL_law_X10_image : GoodIn wsL_law (wsV RL 112 RX10 yX10_image wsX10_image) := goodIn_app (goodIn_of _ (by decide +kernel)) ggL_law_X10_image

set_option maxRecDepth 20000 in
theorem ggL_law_X11_image : GoodIn wsL_law wsX11_image := goodIn_r _ [740, 117, 104, 107, 108, 158, 581, 118, 159, 160, 5, 161, 773, 774, 775, 776, 777, 778, 779, 780, 781, 782, 783, 784, 785, 786, 787, 788, 789, 790, 791, 792, 793, 794, 795] (by decide +kernel) (by decide +kernel)

set_option maxRecDepth 20000 in
theorem gL_law_X11_image : GoodIn wsL_law (wsV RL 115 RX11 yX11_image wsX11_image) := goodIn_app (goodIn_of _ (by decide +kernel)) ggL_law_X11_image

set_option maxRecDepth 20000 in
theorem ggL_law_X10_restore : GoodIn wsL_law wsX10_restore := goodIn_r _ [744, 19, 15, 123, 124, 2, 125, 733, 734, 735, 736, 16, 17, 400, 295, 296, 14, 297, 49, 50, 51, 56, 130, 298, 299, 300, 301, 302, 55, 303, 61, 62, 304, 763, 764, 765, 766, 767, 768, 769, 770, 771, 772, 796, 797, 798, 799, 800, 801, 802, 803, 823, 824, 825] (by decide +kernel) (by decide +kernel)

set_option maxRecDepth 20000 in
theorem gL_law_X10_restore : GoodIn wsL_law (wsV RL 116 RX10 yX10_restore wsX10_restore) := goodIn_app (goodIn_of _ (by decide +kernel)) ggL_law_X10_restore

set_option maxRecDepth 20000 in
theorem ggL_law_X11_restore : GoodIn wsL_law wsX11_restore := goodIn_r _ [748, 118, 104, 117, 107, 108, 158, 581, 159, 160, 5, 161, 773, 774, 775, 776, 777, 778, 779, 780, 781, 782, 783, 784, 785, 786, 787, 788, 789, 790, 791, 792, 793, 794, 795] (by decide +kernel) (by decide +kernel)

set_option maxRecDepth 20000 in
theorem gL_law_X11_restore : GoodIn wsL_law (wsV RL 119 RX11 yX11_restore wsX11_restore) := goodIn_app (goodIn_of _ (by decide +kernel)) ggL_law_X11_restore

set_option maxRecDepth 20000 in
theorem ggL_law_X10_told : GoodIn wsL_law wsX10_told := goodIn_r _ [752, 23, 214, 15, 753, 205, 426, 571, 572, 183, 184, 185, 14, 186, 135, 136, 137, 138, 51, 139, 140, 141, 142, 130, 754, 755, 756, 2, 757, 176, 413, 327, 328, 329, 49, 758, 559, 560, 561, 50, 177, 763, 764, 765, 766, 767, 768, 769, 770, 771, 772, 804, 805, 796, 797, 798, 799, 800, 801, 802, 803, 823, 824, 825] (by decide +kernel) (by decide +kernel)

set_option maxRecDepth 20000 in
theorem gL_law_X10_told : GoodIn wsL_law (wsV RL 120 RX10 yX10_told wsX10_told) := goodIn_app (goodIn_of _ (by decide +kernel)) ggL_law_X10_told

set_option maxRecDepth 20000 in
theorem ggL_law_X11_told : GoodIn wsL_law wsX11_told := goodIn_r _ [762, 104, 107, 224, 158, 581, 162, 163, 164, 5, 165, 159, 160, 161, 166, 167, 168, 191, 192, 193, 194, 105, 195, 196, 197, 198, 199, 200, 773, 774, 775, 776, 777, 778, 779, 780, 781, 782, 783, 784, 785, 786, 787, 788, 789, 790, 791, 792, 793, 794, 795] (by decide +kernel) (by decide +kernel)

set_option maxRecDepth 20000 in
theorem gL_law_X11_told : GoodIn wsL_law (wsV RL 123 RX11 yX11_told wsX11_told) := goodIn_app (goodIn_of _ (by decide +kernel)) ggL_law_X11_told
