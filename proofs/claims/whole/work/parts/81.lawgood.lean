set_option maxRecDepth 20000 in
theorem ggL_law_X3_init : GoodIn wsL_law wsX3_init := goodIn_r _ [8, 9, 10, 11, 12, 13, 14, 15, 16, 17, 18, 19, 20, 21, 22, 23, 24, 25, 26, 27, 28, 29, 30, 31, 32, 33, 34, 35, 36, 37, 38, 39, 40, 41, 42, 43, 44, 45, 46, 47, 48, 440, 441, 442, 443, 444, 445, 446, 447, 463, 464, 465, 466, 467, 468, 469, 470] (by decide +kernel) (by decide +kernel)
set_option maxRecDepth 20000 in
theorem gL_law_X3_init : GoodIn wsL_law (wsX3_init) := ggL_law_X3_init
set_option maxRecDepth 20000 in
theorem ggL_law_X4_init : GoodIn wsL_law wsX4_init := goodIn_r _ [51, 52, 10, 11, 15, 53, 54, 55, 56, 57, 58, 59, 60, 61, 40, 62, 63, 64, 65, 448, 449, 450, 451, 452, 453, 454, 455, 456, 457, 458, 459, 460, 461, 462] (by decide +kernel) (by decide +kernel)
set_option maxRecDepth 20000 in
theorem gL_law_X4_init : GoodIn wsL_law (wsX4_init) := ggL_law_X4_init
set_option maxRecDepth 20000 in
theorem ggL_law_X3_world : GoodIn wsL_law wsX3_world := goodIn_r _ [69, 13, 70, 71, 2, 72, 73, 74, 75, 76, 27, 77, 78, 46, 47, 48, 79, 80, 81, 82, 440, 441, 442, 443, 444, 445, 446, 447, 466, 467, 468] (by decide +kernel) (by decide +kernel)
set_option maxRecDepth 20000 in
theorem gL_law_X3_world : GoodIn wsL_law (wsV RL 13 RX3 yX3_world wsX3_world) := goodIn_app (goodIn_of _ (by decide +kernel)) ggL_law_X3_world
set_option maxRecDepth 20000 in
theorem ggL_law_X4_world : GoodIn wsL_law wsX4_world := goodIn_r _ [86, 53, 54, 55, 87, 88, 5, 89, 90, 91, 92, 448, 449, 450, 451, 452, 453, 454, 455, 456, 457, 458, 459, 460, 461, 462] (by decide +kernel) (by decide +kernel)
set_option maxRecDepth 20000 in
theorem gL_law_X4_world : GoodIn wsL_law (wsV RL 17 RX4 yX4_world wsX4_world) := goodIn_app (goodIn_of _ (by decide +kernel)) ggL_law_X4_world
set_option maxRecDepth 20000 in
theorem ggL_law_X3_weight : GoodIn wsL_law wsX3_weight := goodIn_r _ [96, 13, 70, 71, 2, 72, 97, 27, 98, 99, 46, 100, 101, 102, 103, 104, 105, 48, 47, 440, 441, 442, 443, 444, 445, 446, 447, 466, 467, 468] (by decide +kernel) (by decide +kernel)
set_option maxRecDepth 20000 in
theorem gL_law_X3_weight : GoodIn wsL_law (wsV RL 18 RX3 yX3_weight wsX3_weight) := goodIn_app (goodIn_of _ (by decide +kernel)) ggL_law_X3_weight
set_option maxRecDepth 20000 in
theorem ggL_law_X4_weight : GoodIn wsL_law wsX4_weight := goodIn_r _ [109, 55, 54, 110, 111, 112, 5, 113, 53, 87, 88, 89, 90, 91, 92, 448, 449, 450, 451, 452, 453, 454, 455, 456, 457, 458, 459, 460, 461, 462] (by decide +kernel) (by decide +kernel)
set_option maxRecDepth 20000 in
theorem gL_law_X4_weight : GoodIn wsL_law (wsV RL 22 RX4 yX4_weight wsX4_weight) := goodIn_app (goodIn_of _ (by decide +kernel)) ggL_law_X4_weight
set_option maxRecDepth 20000 in
theorem ggL_law_X3_told : GoodIn wsL_law wsX3_told := goodIn_r _ [117, 13, 70, 71, 2, 72, 118, 27, 119, 120, 48, 121, 122, 123, 47, 124, 97, 98, 99, 46, 440, 441, 442, 443, 444, 445, 446, 447, 466, 467, 468] (by decide +kernel) (by decide +kernel)
set_option maxRecDepth 20000 in
theorem gL_law_X3_told : GoodIn wsL_law (wsV RL 23 RX3 yX3_told wsX3_told) := goodIn_app (goodIn_of _ (by decide +kernel)) ggL_law_X3_told
set_option maxRecDepth 20000 in
theorem ggL_law_X4_told : GoodIn wsL_law wsX4_told := goodIn_r _ [128, 55, 53, 54, 87, 88, 5, 89, 90, 91, 92, 110, 111, 112, 113, 448, 449, 450, 451, 452, 453, 454, 455, 456, 457, 458, 459, 460, 461, 462] (by decide +kernel) (by decide +kernel)
set_option maxRecDepth 20000 in
theorem gL_law_X4_told : GoodIn wsL_law (wsV RL 27 RX4 yX4_told wsX4_told) := goodIn_app (goodIn_of _ (by decide +kernel)) ggL_law_X4_told
set_option maxRecDepth 20000 in
theorem ggL_law_X3_mix : GoodIn wsL_law wsX3_mix := goodIn_r _ [132, 13, 133, 134, 135, 2, 136, 70, 71, 72, 118, 27, 119, 120, 48, 137, 138, 139, 46, 140, 141, 142, 47, 440, 441, 442, 443, 444, 445, 446, 447, 466, 467, 468] (by decide +kernel) (by decide +kernel)
set_option maxRecDepth 20000 in
theorem gL_law_X3_mix : GoodIn wsL_law (wsV RL 28 RX3 yX3_mix wsX3_mix) := goodIn_app (goodIn_of _ (by decide +kernel)) ggL_law_X3_mix
set_option maxRecDepth 20000 in
theorem ggL_law_X4_mix : GoodIn wsL_law wsX4_mix := goodIn_r _ [146, 55, 53, 54, 147, 148, 149, 5, 150, 87, 88, 89, 90, 91, 92, 448, 449, 450, 451, 452, 453, 454, 455, 456, 457, 458, 459, 460, 461, 462] (by decide +kernel) (by decide +kernel)
set_option maxRecDepth 20000 in
theorem gL_law_X4_mix : GoodIn wsL_law (wsV RL 32 RX4 yX4_mix wsX4_mix) := goodIn_app (goodIn_of _ (by decide +kernel)) ggL_law_X4_mix
set_option maxRecDepth 20000 in
theorem ggL_law_X3_tell : GoodIn wsL_law wsX3_tell := goodIn_r _ [154, 13, 155, 21, 133, 134, 135, 2, 136, 70, 71, 72, 118, 27, 119, 120, 48, 156, 157, 158, 47, 79, 80, 81, 82, 101, 102, 159, 160, 161, 46, 440, 441, 442, 443, 444, 445, 446, 447, 466, 467, 468] (by decide +kernel) (by decide +kernel)
set_option maxRecDepth 20000 in
theorem gL_law_X3_tell : GoodIn wsL_law (wsV RL 33 RX3 yX3_tell wsX3_tell) := goodIn_app (goodIn_of _ (by decide +kernel)) ggL_law_X3_tell
set_option maxRecDepth 20000 in
theorem ggL_law_X4_tell : GoodIn wsL_law wsX4_tell := goodIn_r _ [165, 54, 53, 147, 148, 149, 5, 150, 55, 87, 88, 89, 90, 91, 92, 448, 449, 450, 451, 452, 453, 454, 455, 456, 457, 458, 459, 460, 461, 462] (by decide +kernel) (by decide +kernel)
set_option maxRecDepth 20000 in
theorem gL_law_X4_tell : GoodIn wsL_law (wsV RL 37 RX4 yX4_tell wsX4_tell) := goodIn_app (goodIn_of _ (by decide +kernel)) ggL_law_X4_tell
set_option maxRecDepth 20000 in
theorem ggL_law_X3_law : GoodIn wsL_law wsX3_law := goodIn_r _ [169, 16, 170, 171, 2, 172, 173, 174, 175, 440, 441, 442, 443, 444, 445, 446, 447] (by decide +kernel) (by decide +kernel)
set_option maxRecDepth 20000 in
theorem gL_law_X3_law : GoodIn wsL_law (wsV RL 38 RX3 yX3_law wsX3_law) := goodIn_app (goodIn_of _ (by decide +kernel)) ggL_law_X3_law
set_option maxRecDepth 20000 in
theorem ggL_law_X4_law : GoodIn wsL_law wsX4_law := goodIn_r _ [179, 56, 180, 181, 5, 182, 90, 91, 92, 448, 449, 450, 451, 452, 453, 454, 455, 456, 457, 458, 459, 460, 461, 462] (by decide +kernel) (by decide +kernel)
set_option maxRecDepth 20000 in
theorem gL_law_X4_law : GoodIn wsL_law (wsV RL 41 RX4 yX4_law wsX4_law) := goodIn_app (goodIn_of _ (by decide +kernel)) ggL_law_X4_law
set_option maxRecDepth 20000 in
theorem ggL_law_X3_plain : GoodIn wsL_law wsX3_plain := goodIn_r _ [186, 187, 16, 188, 189, 190, 191, 170, 171, 2, 172, 440, 441, 442, 443, 444, 445, 446, 447] (by decide +kernel) (by decide +kernel)
set_option maxRecDepth 20000 in
theorem gL_law_X3_plain : GoodIn wsL_law (wsV RL 42 RX3 yX3_plain wsX3_plain) := goodIn_app (goodIn_of _ (by decide +kernel)) ggL_law_X3_plain
set_option maxRecDepth 20000 in
theorem ggL_law_X4_plain : GoodIn wsL_law wsX4_plain := goodIn_r _ [195, 56, 180, 181, 5, 182, 90, 91, 92, 196, 197, 198, 199, 200, 201, 448, 449, 450, 451, 452, 453, 454, 455, 456, 457, 458, 459, 460, 461, 462] (by decide +kernel) (by decide +kernel)
set_option maxRecDepth 20000 in
theorem gL_law_X4_plain : GoodIn wsL_law (wsV RL 45 RX4 yX4_plain wsX4_plain) := goodIn_app (goodIn_of _ (by decide +kernel)) ggL_law_X4_plain
set_option maxRecDepth 20000 in
theorem ggL_law_X3_number : GoodIn wsL_law wsX3_number := goodIn_r _ [205, 16, 170, 171, 2, 172, 173, 174, 175, 440, 441, 442, 443, 444, 445, 446, 447] (by decide +kernel) (by decide +kernel)
set_option maxRecDepth 20000 in
theorem gL_law_X3_number : GoodIn wsL_law (wsV RL 46 RX3 yX3_number wsX3_number) := goodIn_app (goodIn_of _ (by decide +kernel)) ggL_law_X3_number
set_option maxRecDepth 20000 in
theorem ggL_law_X4_number : GoodIn wsL_law wsX4_number := goodIn_r _ [209, 56, 180, 181, 5, 182, 90, 91, 92, 448, 449, 450, 451, 452, 453, 454, 455, 456, 457, 458, 459, 460, 461, 462] (by decide +kernel) (by decide +kernel)
set_option maxRecDepth 20000 in
theorem gL_law_X4_number : GoodIn wsL_law (wsV RL 49 RX4 yX4_number wsX4_number) := goodIn_app (goodIn_of _ (by decide +kernel)) ggL_law_X4_number
set_option maxRecDepth 20000 in
theorem ggL_law_X3_sign : GoodIn wsL_law wsX3_sign := goodIn_r _ [213, 20, 13, 16, 133, 134, 135, 2, 136, 70, 71, 72, 118, 27, 119, 120, 48, 170, 171, 172, 214, 19, 215, 216, 31, 217, 80, 81, 82, 218, 219, 220, 221, 222, 223, 224, 225, 21, 156, 157, 158, 47, 79, 101, 102, 226, 227, 228, 229, 230, 231, 232, 233, 234, 235, 236, 237, 238, 239, 240, 241, 242, 243, 35, 36, 244, 34, 245, 246, 41, 42, 247, 248, 249, 250, 251, 252, 253, 254, 255, 256, 257, 258, 440, 441, 442, 443, 444, 445, 446, 447, 466, 467, 468, 463, 464, 465, 469, 470] (by decide +kernel) (by decide +kernel)
set_option maxRecDepth 20000 in
theorem gL_law_X3_sign : GoodIn wsL_law (wsV RL 50 RX3 yX3_sign wsX3_sign) := goodIn_app (goodIn_of _ (by decide +kernel)) ggL_law_X3_sign
set_option maxRecDepth 20000 in
theorem ggL_law_X4_sign : GoodIn wsL_law wsX4_sign := goodIn_r _ [262, 147, 148, 149, 5, 150, 55, 87, 88, 89, 90, 91, 92, 180, 181, 182, 263, 264, 265, 266, 58, 267, 268, 269, 270, 56, 271, 272, 273, 274, 59, 275, 276, 277, 278, 54, 279, 280, 281, 282, 57, 283, 284, 285, 286, 60, 61, 287, 288, 289, 290, 291, 292, 293, 294, 295, 296, 297, 448, 449, 450, 451, 452, 453, 454, 455, 456, 457, 458, 459, 460, 461, 462] (by decide +kernel) (by decide +kernel)
set_option maxRecDepth 20000 in
theorem gL_law_X4_sign : GoodIn wsL_law (wsV RL 53 RX4 yX4_sign wsX4_sign) := goodIn_app (goodIn_of _ (by decide +kernel)) ggL_law_X4_sign
set_option maxRecDepth 20000 in
theorem ggL_law_X3_compare : GoodIn wsL_law wsX3_compare := goodIn_r _ [301, 13, 20, 16, 133, 134, 135, 2, 136, 70, 71, 72, 118, 27, 119, 120, 48, 170, 171, 172, 214, 19, 215, 216, 31, 217, 80, 81, 82, 218, 219, 220, 221, 222, 223, 224, 225, 21, 156, 157, 158, 47, 79, 101, 102, 226, 227, 228, 229, 230, 231, 232, 233, 234, 235, 236, 237, 238, 239, 240, 241, 242, 243, 35, 36, 244, 34, 245, 246, 41, 42, 247, 248, 249, 250, 251, 252, 253, 254, 255, 256, 257, 258, 440, 441, 442, 443, 444, 445, 446, 447, 466, 467, 468, 463, 464, 465, 469, 470] (by decide +kernel) (by decide +kernel)
set_option maxRecDepth 20000 in
theorem gL_law_X3_compare : GoodIn wsL_law (wsV RL 54 RX3 yX3_compare wsX3_compare) := goodIn_app (goodIn_of _ (by decide +kernel)) ggL_law_X3_compare
set_option maxRecDepth 20000 in
theorem ggL_law_X4_compare : GoodIn wsL_law wsX4_compare := goodIn_r _ [305, 55, 147, 148, 149, 5, 150, 87, 88, 89, 90, 91, 92, 180, 181, 182, 263, 264, 265, 266, 58, 267, 268, 269, 270, 56, 271, 272, 273, 274, 59, 275, 276, 277, 278, 54, 279, 280, 281, 282, 57, 283, 284, 285, 286, 60, 61, 287, 288, 289, 290, 291, 292, 293, 294, 295, 296, 297, 448, 449, 450, 451, 452, 453, 454, 455, 456, 457, 458, 459, 460, 461, 462] (by decide +kernel) (by decide +kernel)
set_option maxRecDepth 20000 in
theorem gL_law_X4_compare : GoodIn wsL_law (wsV RL 58 RX4 yX4_compare wsX4_compare) := goodIn_app (goodIn_of _ (by decide +kernel)) ggL_law_X4_compare
set_option maxRecDepth 20000 in
theorem ggL_law_X3_near : GoodIn wsL_law wsX3_near := goodIn_r _ [309, 13, 20, 16, 133, 134, 135, 2, 136, 70, 71, 72, 118, 27, 119, 120, 48, 170, 171, 172, 214, 19, 215, 216, 31, 217, 80, 81, 82, 218, 219, 220, 221, 222, 223, 224, 225, 21, 156, 157, 158, 47, 79, 101, 102, 226, 227, 228, 229, 230, 231, 232, 233, 234, 235, 236, 237, 238, 239, 240, 241, 242, 243, 35, 36, 244, 34, 245, 246, 41, 42, 247, 248, 249, 250, 251, 252, 253, 254, 255, 256, 257, 258, 440, 441, 442, 443, 444, 445, 446, 447, 466, 467, 468, 463, 464, 465, 469, 470] (by decide +kernel) (by decide +kernel)
set_option maxRecDepth 20000 in
theorem gL_law_X3_near : GoodIn wsL_law (wsV RL 59 RX3 yX3_near wsX3_near) := goodIn_app (goodIn_of _ (by decide +kernel)) ggL_law_X3_near
set_option maxRecDepth 20000 in
theorem ggL_law_X4_near : GoodIn wsL_law wsX4_near := goodIn_r _ [313, 58, 55, 147, 148, 149, 5, 150, 87, 88, 89, 90, 91, 92, 180, 181, 182, 263, 264, 265, 266, 267, 268, 269, 270, 56, 271, 272, 273, 274, 59, 275, 276, 277, 278, 54, 279, 280, 281, 282, 57, 283, 284, 285, 286, 60, 61, 287, 288, 289, 290, 291, 292, 293, 294, 295, 296, 297, 448, 449, 450, 451, 452, 453, 454, 455, 456, 457, 458, 459, 460, 461, 462] (by decide +kernel) (by decide +kernel)
set_option maxRecDepth 20000 in
theorem gL_law_X4_near : GoodIn wsL_law (wsV RL 62 RX4 yX4_near wsX4_near) := goodIn_app (goodIn_of _ (by decide +kernel)) ggL_law_X4_near
set_option maxRecDepth 20000 in
theorem ggL_law_X3_always : GoodIn wsL_law wsX3_always := goodIn_r _ [317, 16, 170, 171, 2, 172, 318, 319, 320, 321, 322, 323, 324, 325, 326, 187, 327, 328, 329, 330, 440, 441, 442, 443, 444, 445, 446, 447] (by decide +kernel) (by decide +kernel)
set_option maxRecDepth 20000 in
theorem gL_law_X3_always : GoodIn wsL_law (wsV RL 63 RX3 yX3_always wsX3_always) := goodIn_app (goodIn_of _ (by decide +kernel)) ggL_law_X3_always
set_option maxRecDepth 20000 in
theorem ggL_law_X4_always : GoodIn wsL_law wsX4_always := goodIn_r _ [334, 180, 181, 5, 182, 90, 91, 92, 335, 336, 337, 338, 56, 339, 340, 341, 342, 343, 344, 345, 196, 197, 198, 199, 200, 201, 448, 449, 450, 451, 452, 453, 454, 455, 456, 457, 458, 459, 460, 461, 462] (by decide +kernel) (by decide +kernel)
set_option maxRecDepth 20000 in
theorem gL_law_X4_always : GoodIn wsL_law (wsV RL 66 RX4 yX4_always wsX4_always) := goodIn_app (goodIn_of _ (by decide +kernel)) ggL_law_X4_always
set_option maxRecDepth 20000 in
theorem ggL_law_X3_breaks : GoodIn wsL_law wsX3_breaks := goodIn_r _ [349, 16, 170, 171, 2, 172, 318, 319, 320, 321, 322, 323, 324, 325, 326, 187, 327, 328, 329, 330, 440, 441, 442, 443, 444, 445, 446, 447] (by decide +kernel) (by decide +kernel)
set_option maxRecDepth 20000 in
theorem gL_law_X3_breaks : GoodIn wsL_law (wsV RL 67 RX3 yX3_breaks wsX3_breaks) := goodIn_app (goodIn_of _ (by decide +kernel)) ggL_law_X3_breaks
set_option maxRecDepth 20000 in
theorem ggL_law_X4_breaks : GoodIn wsL_law wsX4_breaks := goodIn_r _ [338, 56, 180, 181, 5, 182, 90, 91, 92, 339, 340, 341, 342, 343, 344, 345, 196, 197, 198, 199, 200, 201, 448, 449, 450, 451, 452, 453, 454, 455, 456, 457, 458, 459, 460, 461, 462] (by decide +kernel) (by decide +kernel)
set_option maxRecDepth 20000 in
theorem gL_law_X4_breaks : GoodIn wsL_law (wsV RL 70 RX4 yX4_breaks wsX4_breaks) := goodIn_app (goodIn_of _ (by decide +kernel)) ggL_law_X4_breaks
set_option maxRecDepth 20000 in
theorem ggL_law_X3_prove : GoodIn wsL_law wsX3_prove := goodIn_r _ [354, 16, 23, 24, 188, 189, 190, 191, 25, 170, 171, 2, 172, 355, 356, 357, 358, 22, 359, 360, 361, 362, 363, 364, 365, 155, 366, 367, 368, 440, 441, 442, 443, 444, 445, 446, 447] (by decide +kernel) (by decide +kernel)
set_option maxRecDepth 20000 in
theorem gL_law_X3_prove : GoodIn wsL_law (wsV RL 71 RX3 yX3_prove wsX3_prove) := goodIn_app (goodIn_of _ (by decide +kernel)) ggL_law_X3_prove
set_option maxRecDepth 20000 in
theorem ggL_law_X4_prove : GoodIn wsL_law wsX4_prove := goodIn_r _ [372, 63, 65, 64, 373, 180, 181, 5, 182, 90, 91, 92, 374, 375, 376, 377, 62, 56, 378, 379, 234, 380, 196, 197, 198, 199, 200, 201, 381, 382, 383, 384, 385, 386, 387, 448, 449, 450, 451, 452, 453, 454, 455, 456, 457, 458, 459, 460, 461, 462] (by decide +kernel) (by decide +kernel)
set_option maxRecDepth 20000 in
theorem gL_law_X4_prove : GoodIn wsL_law (wsV RL 75 RX4 yX4_prove wsX4_prove) := goodIn_app (goodIn_of _ (by decide +kernel)) ggL_law_X4_prove
set_option maxRecDepth 20000 in
theorem ggL_law_X3_share : GoodIn wsL_law wsX3_share := goodIn_r _ [391, 25, 24, 440, 441, 442, 443, 444, 445, 446, 447] (by decide +kernel) (by decide +kernel)
set_option maxRecDepth 20000 in
theorem gL_law_X3_share : GoodIn wsL_law (wsV RL 76 RX3 yX3_share wsX3_share) := goodIn_app (goodIn_of _ (by decide +kernel)) ggL_law_X3_share
set_option maxRecDepth 20000 in
theorem ggL_law_X4_share : GoodIn wsL_law wsX4_share := goodIn_r _ [395, 373, 65, 90, 91, 5, 92, 448, 449, 450, 451, 452, 453, 454, 455, 456, 457, 458, 459, 460, 461, 462] (by decide +kernel) (by decide +kernel)
set_option maxRecDepth 20000 in
theorem gL_law_X4_share : GoodIn wsL_law (wsV RL 79 RX4 yX4_share wsX4_share) := goodIn_app (goodIn_of _ (by decide +kernel)) ggL_law_X4_share
set_option maxRecDepth 20000 in
theorem ggL_law_X3_mean : GoodIn wsL_law wsX3_mean := goodIn_r _ [399, 13, 21, 133, 134, 135, 2, 136, 70, 71, 72, 118, 27, 119, 120, 48, 173, 174, 175, 156, 157, 158, 47, 79, 80, 81, 82, 101, 102, 400, 401, 402, 403, 404, 405, 406, 407, 408, 409, 410, 411, 440, 441, 442, 443, 444, 445, 446, 447, 466, 467, 468] (by decide +kernel) (by decide +kernel)
set_option maxRecDepth 20000 in
theorem gL_law_X3_mean : GoodIn wsL_law (wsV RL 80 RX3 yX3_mean wsX3_mean) := goodIn_app (goodIn_of _ (by decide +kernel)) ggL_law_X3_mean
set_option maxRecDepth 20000 in
theorem ggL_law_X4_mean : GoodIn wsL_law wsX4_mean := goodIn_r _ [415, 59, 147, 148, 149, 5, 150, 55, 87, 88, 89, 90, 91, 92, 275, 276, 277, 278, 54, 416, 417, 418, 419, 420, 421, 422, 423, 448, 449, 450, 451, 452, 453, 454, 455, 456, 457, 458, 459, 460, 461, 462] (by decide +kernel) (by decide +kernel)
set_option maxRecDepth 20000 in
theorem gL_law_X4_mean : GoodIn wsL_law (wsV RL 83 RX4 yX4_mean wsX4_mean) := goodIn_app (goodIn_of _ (by decide +kernel)) ggL_law_X4_mean
set_option maxRecDepth 20000 in
theorem ggL_law_X3_words : GoodIn wsL_law wsX3_words := goodIn_r _ [427] (by decide +kernel) (by decide +kernel)
set_option maxRecDepth 20000 in
theorem gL_law_X3_words : GoodIn wsL_law (wsV RL 84 RX3 yX3_words wsX3_words) := goodIn_app (goodIn_of _ (by decide +kernel)) ggL_law_X3_words
set_option maxRecDepth 20000 in
theorem ggL_law_X4_words : GoodIn wsL_law wsX4_words := goodIn_r _ [431, 90, 91, 5, 92] (by decide +kernel) (by decide +kernel)
set_option maxRecDepth 20000 in
theorem gL_law_X4_words : GoodIn wsL_law (wsV RL 87 RX4 yX4_words wsX4_words) := goodIn_app (goodIn_of _ (by decide +kernel)) ggL_law_X4_words
set_option maxRecDepth 20000 in
theorem ggL_law_X3_secret : GoodIn wsL_law wsX3_secret := goodIn_r _ [435, 13, 20, 133, 134, 135, 2, 136, 70, 71, 72, 118, 27, 119, 120, 48, 214, 19, 215, 216, 31, 217, 80, 81, 82, 222, 223, 224, 225, 21, 156, 157, 158, 47, 79, 101, 102, 226, 227, 228, 237, 238, 239, 440, 441, 442, 443, 444, 445, 446, 447, 466, 467, 468, 463, 464, 465] (by decide +kernel) (by decide +kernel)
set_option maxRecDepth 20000 in
theorem gL_law_X3_secret : GoodIn wsL_law (wsV RL 88 RX3 yX3_secret wsX3_secret) := goodIn_app (goodIn_of _ (by decide +kernel)) ggL_law_X3_secret
set_option maxRecDepth 20000 in
theorem ggL_law_X4_secret : GoodIn wsL_law wsX4_secret := goodIn_r _ [439, 147, 148, 149, 5, 150, 55, 87, 88, 89, 90, 91, 92, 263, 264, 265, 266, 58, 271, 272, 273, 274, 59, 275, 276, 277, 278, 54, 279, 280, 281, 282, 57, 283, 284, 285, 286, 60, 61, 287, 288, 289, 290, 291, 292, 293, 294, 295, 296, 297, 448, 449, 450, 451, 452, 453, 454, 455, 456, 457, 458, 459, 460, 461, 462] (by decide +kernel) (by decide +kernel)
set_option maxRecDepth 20000 in
theorem gL_law_X4_secret : GoodIn wsL_law (wsV RL 91 RX4 yX4_secret wsX4_secret) := goodIn_app (goodIn_of _ (by decide +kernel)) ggL_law_X4_secret
