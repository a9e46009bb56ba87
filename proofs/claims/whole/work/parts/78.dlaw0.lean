set_option maxRecDepth 20000 in
theorem ggL_law_X5_init : GoodIn wsL_law wsX5_init := goodIn_r _ [8, 9, 10, 11, 12, 13, 14, 15, 16, 17, 18, 19, 20, 21, 22, 23, 24, 25, 26, 27, 28, 29, 30, 31, 32, 33, 34, 35, 36, 37, 38, 39, 40, 41, 42, 43, 44, 45, 46, 47, 48, 49, 50, 51, 52, 53, 54, 55, 56, 57, 58, 59, 60, 61, 62, 63, 64, 65, 66, 67, 68, 69, 70, 71, 72, 73, 74, 75, 76, 77, 78, 79, 80, 81, 82, 83, 84, 85, 86, 87, 88, 89, 90, 91, 92, 629, 630, 631, 632, 611, 612, 613, 614, 615, 616, 617, 633, 634, 635, 636, 637, 638, 639, 640, 641, 642, 643, 644, 645, 646, 647, 648, 649, 650] (by decide +kernel) (by decide +kernel)
set_option maxRecDepth 20000 in
theorem gL_law_X5_init : GoodIn wsL_law (wsX5_init) := ggL_law_X5_init
set_option maxRecDepth 20000 in
theorem ggL_law_X6_init : GoodIn wsL_law wsX6_init := goodIn_r _ [95, 96, 10, 11, 24, 97, 98, 99, 100, 101, 102, 103, 104, 105, 106, 107, 5, 108, 618, 619, 620, 621, 622, 623, 624, 625, 626, 627, 628] (by decide +kernel) (by decide +kernel)
set_option maxRecDepth 20000 in
theorem gL_law_X6_init : GoodIn wsL_law (wsX6_init) := ggL_law_X6_init
set_option maxRecDepth 20000 in
theorem ggL_law_X5_setCode : GoodIn wsL_law wsX5_setCode := goodIn_r _ [112, 15, 113, 114, 115, 116, 117, 118, 119, 2, 120, 19, 18, 121, 122, 123, 124, 125, 126, 127, 14, 128, 30, 34, 38, 42, 129, 130, 131, 33, 132, 52, 47, 48, 49, 50, 51, 53, 133, 134, 135, 37, 136, 65, 66, 58, 137, 138, 139, 140, 59, 60, 141, 142, 143, 41, 144, 79, 80, 81, 82, 71, 145, 72, 74, 146, 147, 62, 63, 64, 148, 76, 77, 78, 83, 84, 85, 86, 611, 612, 613, 614, 615, 616, 617, 629, 630, 631, 632, 635, 636, 637, 638, 639, 640, 641, 642, 643, 644, 645, 646, 647, 648, 649, 650] (by decide +kernel) (by decide +kernel)
set_option maxRecDepth 20000 in
theorem gL_law_X5_setCode : GoodIn wsL_law (wsV RL 13 RX5 yX5_setCode wsX5_setCode) := goodIn_app (goodIn_of _ (by decide +kernel)) ggL_law_X5_setCode
set_option maxRecDepth 20000 in
theorem ggL_law_X6_setCode : GoodIn wsL_law wsX6_setCode := goodIn_r _ [152, 97, 153, 154, 5, 155, 156, 157, 158, 159, 160, 98, 105, 106, 107, 108, 618, 619, 620, 621, 622, 623, 624, 625, 626, 627, 628] (by decide +kernel) (by decide +kernel)
set_option maxRecDepth 20000 in
theorem gL_law_X6_setCode : GoodIn wsL_law (wsV RL 17 RX6 yX6_setCode wsX6_setCode) := goodIn_app (goodIn_of _ (by decide +kernel)) ggL_law_X6_setCode
set_option maxRecDepth 20000 in
theorem ggL_law_X5_setDepth : GoodIn wsL_law wsX5_setDepth := goodIn_r _ [164, 15, 115, 165, 166, 117, 118, 119, 2, 120, 19, 18, 121, 122, 123, 124, 125, 126, 127, 14, 128, 30, 34, 38, 42, 129, 130, 131, 33, 132, 52, 47, 48, 49, 50, 51, 53, 133, 134, 135, 37, 136, 65, 66, 58, 137, 138, 139, 140, 59, 60, 141, 142, 143, 41, 144, 79, 80, 81, 82, 71, 145, 72, 74, 611, 612, 613, 614, 615, 616, 617, 629, 630, 631, 632, 643, 644, 645, 646, 647, 648, 649, 650, 635, 636, 637, 638, 639, 640, 641, 642] (by decide +kernel) (by decide +kernel)
set_option maxRecDepth 20000 in
theorem gL_law_X5_setDepth : GoodIn wsL_law (wsV RL 18 RX5 yX5_setDepth wsX5_setDepth) := goodIn_app (goodIn_of _ (by decide +kernel)) ggL_law_X5_setDepth
set_option maxRecDepth 20000 in
theorem ggL_law_X6_setDepth : GoodIn wsL_law wsX6_setDepth := goodIn_r _ [170, 97, 153, 154, 5, 155, 156, 157, 158, 159, 160, 98, 618, 619, 620, 621, 622, 623, 624, 625, 626, 627, 628] (by decide +kernel) (by decide +kernel)
set_option maxRecDepth 20000 in
theorem gL_law_X6_setDepth : GoodIn wsL_law (wsV RL 22 RX6 yX6_setDepth wsX6_setDepth) := goodIn_app (goodIn_of _ (by decide +kernel)) ggL_law_X6_setDepth
set_option maxRecDepth 20000 in
theorem ggL_law_X5_send : GoodIn wsL_law wsX5_send := goodIn_r _ [174, 23, 15, 114, 175, 176, 113, 177, 178, 179, 180, 22, 181, 91, 92, 117, 118, 119, 2, 120, 19, 18, 121, 122, 123, 124, 125, 126, 127, 14, 128, 30, 34, 38, 42, 129, 130, 131, 33, 132, 52, 47, 48, 49, 50, 51, 53, 133, 134, 135, 37, 136, 65, 66, 58, 137, 138, 139, 140, 59, 60, 141, 142, 143, 41, 144, 79, 80, 81, 82, 71, 145, 72, 74, 182, 183, 184, 185, 186, 187, 188, 189, 190, 191, 192, 193, 194, 195, 196, 197, 198, 199, 200, 201, 202, 203, 204, 205, 206, 611, 612, 613, 614, 615, 616, 617, 629, 630, 631, 632, 638, 639, 640, 641, 642, 633, 634, 635, 636, 637, 643, 644, 645, 646, 647, 648, 649, 650] (by decide +kernel) (by decide +kernel)
set_option maxRecDepth 20000 in
theorem gL_law_X5_send : GoodIn wsL_law (wsV RL 23 RX5 yX5_send wsX5_send) := goodIn_app (goodIn_of _ (by decide +kernel)) ggL_law_X5_send
set_option maxRecDepth 20000 in
theorem ggL_law_X6_send : GoodIn wsL_law wsX6_send := goodIn_r _ [210, 97, 211, 100, 212, 213, 214, 5, 215, 156, 157, 158, 159, 160, 98, 216, 217, 218, 219, 220, 221, 222, 223, 224, 225, 226, 227, 228, 229, 230, 231, 232, 233, 234, 235, 618, 619, 620, 621, 622, 623, 624, 625, 626, 627, 628] (by decide +kernel) (by decide +kernel)
set_option maxRecDepth 20000 in
theorem gL_law_X6_send : GoodIn wsL_law (wsV RL 27 RX6 yX6_send wsX6_send) := goodIn_app (goodIn_of _ (by decide +kernel)) ggL_law_X6_send
set_option maxRecDepth 20000 in
theorem ggL_law_X5_sendTail : GoodIn wsL_law wsX5_sendTail := goodIn_r _ [239, 15, 113, 240, 114, 175, 117, 118, 119, 2, 120, 19, 18, 121, 122, 123, 124, 125, 126, 127, 14, 128, 30, 34, 38, 42, 129, 130, 131, 33, 132, 52, 47, 48, 49, 50, 51, 53, 133, 134, 135, 37, 136, 65, 66, 58, 137, 138, 139, 140, 59, 60, 141, 142, 143, 41, 144, 79, 80, 81, 82, 71, 145, 72, 74, 182, 183, 184, 185, 186, 187, 188, 189, 190, 191, 192, 193, 194, 195, 196, 197, 198, 199, 200, 201, 202, 203, 204, 205, 206, 611, 612, 613, 614, 615, 616, 617, 629, 630, 631, 632, 635, 636, 637, 638, 639, 640, 641, 642, 643, 644, 645, 646, 647, 648, 649, 650] (by decide +kernel) (by decide +kernel)
set_option maxRecDepth 20000 in
theorem gL_law_X5_sendTail : GoodIn wsL_law (wsV RL 28 RX5 yX5_sendTail wsX5_sendTail) := goodIn_app (goodIn_of _ (by decide +kernel)) ggL_law_X5_sendTail
set_option maxRecDepth 20000 in
theorem ggL_law_X6_sendTail : GoodIn wsL_law wsX6_sendTail := goodIn_r _ [244, 97, 156, 157, 158, 5, 159, 160, 98, 216, 217, 218, 219, 220, 221, 222, 223, 224, 225, 226, 227, 228, 229, 230, 231, 232, 233, 234, 235, 618, 619, 620, 621, 622, 623, 624, 625, 626, 627, 628] (by decide +kernel) (by decide +kernel)
set_option maxRecDepth 20000 in
theorem gL_law_X6_sendTail : GoodIn wsL_law (wsV RL 31 RX6 yX6_sendTail wsX6_sendTail) := goodIn_app (goodIn_of _ (by decide +kernel)) ggL_law_X6_sendTail
set_option maxRecDepth 20000 in
theorem ggL_law_X5_flip : GoodIn wsL_law wsX5_flip := goodIn_r _ [248, 15, 114, 249, 250, 251, 252, 2, 253, 254, 255, 256, 257, 175, 113, 116, 258, 259, 260, 261, 115, 262, 117, 118, 119, 120, 19, 18, 121, 122, 123, 124, 125, 126, 127, 14, 128, 30, 34, 38, 42, 129, 130, 131, 33, 132, 52, 47, 48, 49, 50, 51, 53, 133, 134, 135, 37, 136, 65, 66, 58, 137, 138, 139, 140, 59, 60, 141, 142, 143, 41, 144, 79, 80, 81, 82, 71, 145, 72, 74, 611, 612, 613, 614, 615, 616, 617, 629, 630, 631, 632, 638, 639, 640, 641, 642, 635, 636, 637, 643, 644, 645, 646, 647, 648, 649, 650] (by decide +kernel) (by decide +kernel)
set_option maxRecDepth 20000 in
theorem gL_law_X5_flip : GoodIn wsL_law (wsV RL 32 RX5 yX5_flip wsX5_flip) := goodIn_app (goodIn_of _ (by decide +kernel)) ggL_law_X5_flip
set_option maxRecDepth 20000 in
theorem ggL_law_X6_flip : GoodIn wsL_law wsX6_flip := goodIn_r _ [266, 97, 228, 229, 230, 5, 231, 153, 154, 155, 156, 157, 158, 159, 160, 98, 618, 619, 620, 621, 622, 623, 624, 625, 626, 627, 628] (by decide +kernel) (by decide +kernel)
set_option maxRecDepth 20000 in
theorem gL_law_X6_flip : GoodIn wsL_law (wsV RL 35 RX6 yX6_flip wsX6_flip) := goodIn_app (goodIn_of _ (by decide +kernel)) ggL_law_X6_flip
set_option maxRecDepth 20000 in
theorem ggL_law_X5_erase : GoodIn wsL_law wsX5_erase := goodIn_r _ [270, 15, 114, 249, 250, 251, 252, 2, 253, 254, 255, 256, 257, 175, 113, 116, 258, 259, 260, 261, 115, 262, 117, 118, 119, 120, 19, 18, 121, 122, 123, 124, 125, 126, 127, 14, 128, 30, 34, 38, 42, 129, 130, 131, 33, 132, 52, 47, 48, 49, 50, 51, 53, 133, 134, 135, 37, 136, 65, 66, 58, 137, 138, 139, 140, 59, 60, 141, 142, 143, 41, 144, 79, 80, 81, 82, 71, 145, 72, 74, 611, 612, 613, 614, 615, 616, 617, 629, 630, 631, 632, 638, 639, 640, 641, 642, 635, 636, 637, 643, 644, 645, 646, 647, 648, 649, 650] (by decide +kernel) (by decide +kernel)
set_option maxRecDepth 20000 in
theorem gL_law_X5_erase : GoodIn wsL_law (wsV RL 36 RX5 yX5_erase wsX5_erase) := goodIn_app (goodIn_of _ (by decide +kernel)) ggL_law_X5_erase
set_option maxRecDepth 20000 in
theorem ggL_law_X6_erase : GoodIn wsL_law wsX6_erase := goodIn_r _ [274, 97, 228, 229, 230, 5, 231, 153, 154, 155, 156, 157, 158, 159, 160, 98, 618, 619, 620, 621, 622, 623, 624, 625, 626, 627, 628] (by decide +kernel) (by decide +kernel)
set_option maxRecDepth 20000 in
theorem gL_law_X6_erase : GoodIn wsL_law (wsV RL 39 RX6 yX6_erase wsX6_erase) := goodIn_app (goodIn_of _ (by decide +kernel)) ggL_law_X6_erase
set_option maxRecDepth 20000 in
theorem ggL_law_X5_take : GoodIn wsL_law wsX5_take := goodIn_r _ [278, 15, 115, 279, 262, 114, 175, 165, 113, 116, 166, 249, 280, 117, 118, 119, 2, 120, 19, 18, 121, 122, 123, 124, 125, 126, 127, 14, 128, 30, 34, 38, 42, 129, 130, 131, 33, 132, 52, 47, 48, 49, 50, 51, 53, 133, 134, 135, 37, 136, 65, 66, 58, 137, 138, 139, 140, 59, 60, 141, 142, 143, 41, 144, 79, 80, 81, 82, 71, 145, 72, 74, 281, 282, 283, 284, 73, 285, 286, 287, 288, 289, 290, 291, 292, 293, 294, 295, 296, 297, 298, 299, 300, 301, 302, 303, 304, 305, 206, 188, 189, 190, 306, 192, 193, 194, 195, 196, 197, 198, 199, 200, 201, 307, 308, 309, 310, 311, 312, 313, 314, 315, 316, 317, 318, 611, 612, 613, 614, 615, 616, 617, 629, 630, 631, 632, 643, 644, 645, 646, 647, 648, 649, 650, 638, 639, 640, 641, 642, 635, 636, 637] (by decide +kernel) (by decide +kernel)
set_option maxRecDepth 20000 in
theorem gL_law_X5_take : GoodIn wsL_law (wsV RL 40 RX5 yX5_take wsX5_take) := goodIn_app (goodIn_of _ (by decide +kernel)) ggL_law_X5_take
set_option maxRecDepth 20000 in
theorem ggL_law_X6_take : GoodIn wsL_law wsX6_take := goodIn_r _ [322, 97, 101, 153, 154, 5, 155, 228, 229, 230, 231, 156, 157, 158, 159, 160, 98, 323, 324, 325, 326, 102, 103, 224, 225, 226, 227, 327, 328, 329, 330, 220, 221, 222, 223, 331, 332, 333, 334, 232, 233, 234, 235, 335, 336, 337, 338, 339, 340, 341, 342, 343, 344, 345, 346, 618, 619, 620, 621, 622, 623, 624, 625, 626, 627, 628] (by decide +kernel) (by decide +kernel)
set_option maxRecDepth 20000 in
theorem gL_law_X6_take : GoodIn wsL_law (wsV RL 43 RX6 yX6_take wsX6_take) := goodIn_app (goodIn_of _ (by decide +kernel)) ggL_law_X6_take
set_option maxRecDepth 20000 in
theorem ggL_law_X5_hear : GoodIn wsL_law wsX5_hear := goodIn_r _ [350, 15, 115, 23, 113, 116, 176, 279, 165, 166, 177, 280, 178, 179, 180, 22, 181, 91, 92, 117, 118, 119, 2, 120, 19, 18, 121, 122, 123, 124, 125, 126, 127, 14, 128, 30, 34, 38, 42, 129, 130, 131, 33, 132, 52, 47, 48, 49, 50, 51, 53, 133, 134, 135, 37, 136, 65, 66, 58, 137, 138, 139, 140, 59, 60, 141, 142, 143, 41, 144, 79, 80, 81, 82, 71, 145, 72, 74, 281, 282, 283, 284, 73, 285, 286, 287, 288, 289, 290, 291, 292, 293, 294, 295, 296, 297, 298, 299, 300, 301, 302, 303, 304, 305, 206, 188, 189, 190, 306, 192, 193, 194, 195, 196, 197, 198, 199, 200, 201, 307, 308, 309, 310, 311, 312, 313, 314, 315, 316, 317, 318, 611, 612, 613, 614, 615, 616, 617, 629, 630, 631, 632, 635, 636, 637, 633, 634, 643, 644, 645, 646, 647, 648, 649, 650, 638, 639, 640, 641, 642] (by decide +kernel) (by decide +kernel)
set_option maxRecDepth 20000 in
theorem gL_law_X5_hear : GoodIn wsL_law (wsV RL 44 RX5 yX5_hear wsX5_hear) := goodIn_app (goodIn_of _ (by decide +kernel)) ggL_law_X5_hear
set_option maxRecDepth 20000 in
theorem ggL_law_X6_hear : GoodIn wsL_law wsX6_hear := goodIn_r _ [354, 211, 97, 101, 100, 212, 213, 214, 5, 215, 156, 157, 158, 159, 160, 98, 323, 324, 325, 326, 102, 103, 224, 225, 226, 227, 327, 328, 329, 330, 220, 221, 222, 223, 331, 332, 333, 334, 232, 233, 234, 235, 335, 336, 337, 338, 339, 340, 341, 342, 343, 344, 345, 346, 618, 619, 620, 621, 622, 623, 624, 625, 626, 627, 628] (by decide +kernel) (by decide +kernel)
set_option maxRecDepth 20000 in
theorem gL_law_X6_hear : GoodIn wsL_law (wsV RL 47 RX6 yX6_hear wsX6_hear) := goodIn_app (goodIn_of _ (by decide +kernel)) ggL_law_X6_hear
set_option maxRecDepth 20000 in
theorem ggL_law_X5_finish : GoodIn wsL_law wsX5_finish := goodIn_r _ [358, 15, 115, 279, 359, 113, 165, 280, 117, 118, 119, 2, 120, 19, 18, 121, 122, 123, 124, 125, 126, 127, 14, 128, 30, 34, 38, 42, 129, 130, 131, 33, 132, 52, 47, 48, 49, 50, 51, 53, 133, 134, 135, 37, 136, 65, 66, 58, 137, 138, 139, 140, 59, 60, 141, 142, 143, 41, 144, 79, 80, 81, 82, 71, 145, 72, 74, 360, 308, 309, 310, 285, 286, 287, 288, 361, 312, 313, 314, 294, 295, 296, 297, 315, 316, 317, 318, 289, 290, 291, 292, 293, 611, 612, 613, 614, 615, 616, 617, 629, 630, 631, 632, 643, 644, 645, 646, 647, 648, 649, 650, 635, 636, 637, 638, 639, 640, 641, 642] (by decide +kernel) (by decide +kernel)
set_option maxRecDepth 20000 in
theorem gL_law_X5_finish : GoodIn wsL_law (wsV RL 48 RX5 yX5_finish wsX5_finish) := goodIn_app (goodIn_of _ (by decide +kernel)) ggL_law_X5_finish
set_option maxRecDepth 20000 in
theorem ggL_law_X6_finish : GoodIn wsL_law wsX6_finish := goodIn_r _ [365, 97, 156, 157, 158, 5, 159, 160, 98, 335, 336, 337, 338, 224, 225, 226, 227, 339, 340, 341, 342, 343, 344, 345, 346, 618, 619, 620, 621, 622, 623, 624, 625, 626, 627, 628] (by decide +kernel) (by decide +kernel)
set_option maxRecDepth 20000 in
theorem gL_law_X6_finish : GoodIn wsL_law (wsV RL 52 RX6 yX6_finish wsX6_finish) := goodIn_app (goodIn_of _ (by decide +kernel)) ggL_law_X6_finish
set_option maxRecDepth 20000 in
theorem ggL_law_X5_reset : GoodIn wsL_law wsX5_reset := goodIn_r _ [369, 15, 115, 165, 117, 118, 119, 2, 120, 19, 18, 121, 122, 123, 124, 125, 126, 127, 14, 128, 30, 34, 38, 42, 129, 130, 131, 33, 132, 52, 47, 48, 49, 50, 51, 53, 133, 134, 135, 37, 136, 65, 66, 58, 137, 138, 139, 140, 59, 60, 141, 142, 143, 41, 144, 79, 80, 81, 82, 71, 145, 72, 74, 148, 76, 77, 78, 83, 84, 85, 86, 611, 612, 613, 614, 615, 616, 617, 629, 630, 631, 632, 643, 644, 645, 646, 647, 648, 649, 650, 635, 636, 637, 638, 639, 640, 641, 642] (by decide +kernel) (by decide +kernel)
set_option maxRecDepth 20000 in
theorem gL_law_X5_reset : GoodIn wsL_law (wsV RL 53 RX5 yX5_reset wsX5_reset) := goodIn_app (goodIn_of _ (by decide +kernel)) ggL_law_X5_reset
set_option maxRecDepth 20000 in
theorem ggL_law_X6_reset : GoodIn wsL_law wsX6_reset := goodIn_r _ [373, 97, 156, 157, 158, 5, 159, 160, 98, 105, 106, 107, 108, 618, 619, 620, 621, 622, 623, 624, 625, 626, 627, 628] (by decide +kernel) (by decide +kernel)
set_option maxRecDepth 20000 in
theorem gL_law_X6_reset : GoodIn wsL_law (wsV RL 56 RX6 yX6_reset wsX6_reset) := goodIn_app (goodIn_of _ (by decide +kernel)) ggL_law_X6_reset
set_option maxRecDepth 20000 in
theorem ggL_law_X5_type : GoodIn wsL_law wsX5_type := goodIn_r _ [377, 23, 176, 378, 379, 380, 22, 381, 91, 92, 382, 383, 384, 611, 612, 613, 614, 615, 616, 617, 633, 634] (by decide +kernel) (by decide +kernel)
set_option maxRecDepth 20000 in
theorem gL_law_X5_type : GoodIn wsL_law (wsV RL 57 RX5 yX5_type wsX5_type) := goodIn_app (goodIn_of _ (by decide +kernel)) ggL_law_X5_type
set_option maxRecDepth 20000 in
theorem ggL_law_X6_type : GoodIn wsL_law wsX6_type := goodIn_r _ [388, 211, 100, 618, 619, 620, 621, 622, 623, 624, 625, 626, 627, 628] (by decide +kernel) (by decide +kernel)
set_option maxRecDepth 20000 in
theorem gL_law_X6_type : GoodIn wsL_law (wsV RL 61 RX6 yX6_type wsX6_type) := goodIn_app (goodIn_of _ (by decide +kernel)) ggL_law_X6_type
set_option maxRecDepth 20000 in
theorem ggL_law_X5_clearText : GoodIn wsL_law wsX5_clearText := goodIn_r _ [392, 23, 176, 611, 612, 613, 614, 615, 616, 617, 633, 634] (by decide +kernel) (by decide +kernel)
set_option maxRecDepth 20000 in
theorem gL_law_X5_clearText : GoodIn wsL_law (wsV RL 62 RX5 yX5_clearText wsX5_clearText) := goodIn_app (goodIn_of _ (by decide +kernel)) ggL_law_X5_clearText
set_option maxRecDepth 20000 in
theorem ggL_law_X6_clearText : GoodIn wsL_law wsX6_clearText := goodIn_r _ [396, 211, 618, 619, 620, 621, 622, 623, 624, 625, 626, 627, 628] (by decide +kernel) (by decide +kernel)
set_option maxRecDepth 20000 in
theorem gL_law_X6_clearText : GoodIn wsL_law (wsV RL 65 RX6 yX6_clearText wsX6_clearText) := goodIn_app (goodIn_of _ (by decide +kernel)) ggL_law_X6_clearText
set_option maxRecDepth 20000 in
theorem ggL_law_X5_undo : GoodIn wsL_law wsX5_undo := goodIn_r _ [400, 19, 15, 18, 125, 126, 127, 14, 128, 30, 34, 38, 42, 129, 130, 131, 33, 132, 52, 47, 48, 49, 50, 51, 53, 133, 134, 135, 37, 136, 65, 66, 58, 137, 138, 139, 140, 59, 60, 141, 142, 143, 41, 144, 79, 80, 81, 82, 71, 145, 72, 74, 611, 612, 613, 614, 615, 616, 617, 629, 630, 631, 632, 635, 636, 637, 638, 639, 640, 641, 642, 643, 644, 645, 646, 647, 648, 649, 650] (by decide +kernel) (by decide +kernel)
set_option maxRecDepth 20000 in
theorem gL_law_X5_undo : GoodIn wsL_law (wsV RL 66 RX5 yX5_undo wsX5_undo) := goodIn_app (goodIn_of _ (by decide +kernel)) ggL_law_X5_undo
set_option maxRecDepth 20000 in
theorem ggL_law_X6_undo : GoodIn wsL_law wsX6_undo := goodIn_r _ [404, 160, 97, 98, 618, 619, 620, 621, 622, 623, 624, 625, 626, 627, 628] (by decide +kernel) (by decide +kernel)
set_option maxRecDepth 20000 in
theorem gL_law_X6_undo : GoodIn wsL_law (wsV RL 69 RX6 yX6_undo wsX6_undo) := goodIn_app (goodIn_of _ (by decide +kernel)) ggL_law_X6_undo
set_option maxRecDepth 20000 in
theorem ggL_law_X5_keep : GoodIn wsL_law wsX5_keep := goodIn_r _ [408, 16, 15, 17, 114, 175, 125, 126, 127, 14, 128, 30, 34, 38, 42, 129, 130, 131, 33, 132, 52, 47, 48, 49, 50, 51, 53, 133, 134, 135, 37, 136, 65, 66, 58, 137, 138, 139, 140, 59, 60, 141, 142, 143, 41, 144, 79, 80, 81, 82, 71, 145, 72, 74, 611, 612, 613, 614, 615, 616, 617, 629, 630, 631, 632, 638, 639, 640, 641, 642, 635, 636, 637, 643, 644, 645, 646, 647, 648, 649, 650] (by decide +kernel) (by decide +kernel)
set_option maxRecDepth 20000 in
theorem gL_law_X5_keep : GoodIn wsL_law (wsV RL 70 RX5 yX5_keep wsX5_keep) := goodIn_app (goodIn_of _ (by decide +kernel)) ggL_law_X5_keep
set_option maxRecDepth 20000 in
theorem ggL_law_X6_keep : GoodIn wsL_law wsX6_keep := goodIn_r _ [412, 99, 97, 413, 618, 619, 620, 621, 622, 623, 624, 625, 626, 627, 628] (by decide +kernel) (by decide +kernel)
set_option maxRecDepth 20000 in
theorem gL_law_X6_keep : GoodIn wsL_law (wsV RL 73 RX6 yX6_keep wsX6_keep) := goodIn_app (goodIn_of _ (by decide +kernel)) ggL_law_X6_keep
set_option maxRecDepth 20000 in
theorem ggL_law_X5_restore : GoodIn wsL_law wsX5_restore := goodIn_r _ [417, 17, 15, 16, 114, 175, 117, 118, 119, 2, 120, 19, 18, 121, 122, 123, 124, 125, 126, 127, 14, 128, 30, 34, 38, 42, 129, 130, 131, 33, 132, 52, 47, 48, 49, 50, 51, 53, 133, 134, 135, 37, 136, 65, 66, 58, 137, 138, 139, 140, 59, 60, 141, 142, 143, 41, 144, 79, 80, 81, 82, 71, 145, 72, 74, 611, 612, 613, 614, 615, 616, 617, 629, 630, 631, 632, 638, 639, 640, 641, 642, 635, 636, 637, 643, 644, 645, 646, 647, 648, 649, 650] (by decide +kernel) (by decide +kernel)
set_option maxRecDepth 20000 in
theorem gL_law_X5_restore : GoodIn wsL_law (wsV RL 74 RX5 yX5_restore wsX5_restore) := goodIn_app (goodIn_of _ (by decide +kernel)) ggL_law_X5_restore
set_option maxRecDepth 20000 in
theorem ggL_law_X6_restore : GoodIn wsL_law wsX6_restore := goodIn_r _ [421, 413, 97, 99, 156, 157, 158, 5, 159, 160, 98, 618, 619, 620, 621, 622, 623, 624, 625, 626, 627, 628] (by decide +kernel) (by decide +kernel)
set_option maxRecDepth 20000 in
theorem gL_law_X6_restore : GoodIn wsL_law (wsV RL 77 RX6 yX6_restore wsX6_restore) := goodIn_app (goodIn_of _ (by decide +kernel)) ggL_law_X6_restore
set_option maxRecDepth 20000 in
theorem ggL_law_X5_step : GoodIn wsL_law wsX5_step := goodIn_r _ [425, 15, 113, 426, 427, 428, 33, 429, 293, 286, 287, 288, 52, 430, 203, 204, 205, 206, 188, 189, 190, 431, 432, 433, 434, 53, 306, 192, 193, 194, 47, 195, 196, 197, 198, 199, 200, 201, 611, 612, 613, 614, 615, 616, 617, 629, 630, 631, 632, 635, 636, 637] (by decide +kernel) (by decide +kernel)
set_option maxRecDepth 20000 in
theorem gL_law_X5_step : GoodIn wsL_law (wsV RL 78 RX5 yX5_step wsX5_step) := goodIn_app (goodIn_of _ (by decide +kernel)) ggL_law_X5_step
set_option maxRecDepth 20000 in
theorem ggL_law_X6_step : GoodIn wsL_law wsX6_step := goodIn_r _ [438, 97, 439, 440, 441, 5, 442, 224, 225, 226, 227, 153, 154, 155, 220, 221, 222, 223, 232, 233, 234, 235, 618, 619, 620, 621, 622, 623, 624, 625, 626, 627, 628] (by decide +kernel) (by decide +kernel)
set_option maxRecDepth 20000 in
theorem gL_law_X6_step : GoodIn wsL_law (wsV RL 82 RX6 yX6_step wsX6_step) := goodIn_app (goodIn_of _ (by decide +kernel)) ggL_law_X6_step
set_option maxRecDepth 20000 in
theorem ggL_law_X5_line : GoodIn wsL_law wsX5_line := goodIn_r _ [446, 15, 114, 249, 447, 250, 251, 252, 2, 253, 254, 255, 256, 257, 175, 113, 116, 258, 259, 260, 261, 115, 262, 611, 612, 613, 614, 615, 616, 617, 629, 630, 631, 632, 638, 639, 640, 641, 642, 635, 636, 637, 643, 644, 645, 646, 647, 648, 649, 650] (by decide +kernel) (by decide +kernel)
set_option maxRecDepth 20000 in
theorem gL_law_X5_line : GoodIn wsL_law (wsV RL 83 RX5 yX5_line wsX5_line) := goodIn_app (goodIn_of _ (by decide +kernel)) ggL_law_X5_line
set_option maxRecDepth 20000 in
theorem ggL_law_X6_line : GoodIn wsL_law wsX6_line := goodIn_r _ [451, 97, 228, 229, 230, 5, 231, 153, 154, 155, 618, 619, 620, 621, 622, 623, 624, 625, 626, 627, 628] (by decide +kernel) (by decide +kernel)
set_option maxRecDepth 20000 in
theorem gL_law_X6_line : GoodIn wsL_law (wsV RL 87 RX6 yX6_line wsX6_line) := goodIn_app (goodIn_of _ (by decide +kernel)) ggL_law_X6_line
set_option maxRecDepth 20000 in
theorem ggL_law_X5_sent : GoodIn wsL_law wsX5_sent := goodIn_r _ [455, 15, 114, 175, 456, 611, 612, 613, 614, 615, 616, 617, 629, 630, 631, 632, 638, 639, 640, 641, 642] (by decide +kernel) (by decide +kernel)
set_option maxRecDepth 20000 in
theorem gL_law_X5_sent : GoodIn wsL_law (wsV RL 88 RX5 yX5_sent wsX5_sent) := goodIn_app (goodIn_of _ (by decide +kernel)) ggL_law_X5_sent
set_option maxRecDepth 20000 in
theorem ggL_law_X6_sent : GoodIn wsL_law wsX6_sent := goodIn_r _ [460, 97, 153, 154, 5, 155, 618, 619, 620, 621, 622, 623, 624, 625, 626, 627, 628] (by decide +kernel) (by decide +kernel)
set_option maxRecDepth 20000 in
theorem gL_law_X6_sent : GoodIn wsL_law (wsV RL 91 RX6 yX6_sent wsX6_sent) := goodIn_app (goodIn_of _ (by decide +kernel)) ggL_law_X6_sent
set_option maxRecDepth 20000 in
theorem ggL_law_X5_released : GoodIn wsL_law wsX5_released := goodIn_r _ [464, 15, 115, 280, 465, 611, 612, 613, 614, 615, 616, 617, 629, 630, 631, 632, 643, 644, 645, 646, 647, 648, 649, 650] (by decide +kernel) (by decide +kernel)
set_option maxRecDepth 20000 in
theorem gL_law_X5_released : GoodIn wsL_law (wsV RL 92 RX5 yX5_released wsX5_released) := goodIn_app (goodIn_of _ (by decide +kernel)) ggL_law_X5_released
set_option maxRecDepth 20000 in
theorem ggL_law_X6_released : GoodIn wsL_law wsX6_released := goodIn_r _ [469, 97, 153, 154, 5, 155, 618, 619, 620, 621, 622, 623, 624, 625, 626, 627, 628] (by decide +kernel) (by decide +kernel)
set_option maxRecDepth 20000 in
theorem gL_law_X6_released : GoodIn wsL_law (wsV RL 95 RX6 yX6_released wsX6_released) := goodIn_app (goodIn_of _ (by decide +kernel)) ggL_law_X6_released
set_option maxRecDepth 20000 in
theorem ggL_law_X5_metric : GoodIn wsL_law wsX5_metric := goodIn_r _ [473, 15, 113, 115, 359, 426, 427, 428, 33, 429, 293, 286, 287, 288, 52, 611, 612, 613, 614, 615, 616, 617, 629, 630, 631, 632, 643, 644, 645, 646, 647, 648, 649, 650, 635, 636, 637] (by decide +kernel) (by decide +kernel)
set_option maxRecDepth 20000 in
theorem gL_law_X5_metric : GoodIn wsL_law (wsV RL 96 RX5 yX5_metric wsX5_metric) := goodIn_app (goodIn_of _ (by decide +kernel)) ggL_law_X5_metric
set_option maxRecDepth 20000 in
theorem ggL_law_X6_metric : GoodIn wsL_law wsX6_metric := goodIn_r _ [477, 97, 439, 440, 441, 5, 442, 224, 225, 226, 227, 153, 154, 155, 618, 619, 620, 621, 622, 623, 624, 625, 626, 627, 628] (by decide +kernel) (by decide +kernel)
set_option maxRecDepth 20000 in
theorem gL_law_X6_metric : GoodIn wsL_law (wsV RL 99 RX6 yX6_metric wsX6_metric) := goodIn_app (goodIn_of _ (by decide +kernel)) ggL_law_X6_metric
set_option maxRecDepth 20000 in
theorem ggL_law_X5_survivor : GoodIn wsL_law wsX5_survivor := goodIn_r _ [481, 15, 113, 115, 359, 165, 426, 427, 428, 33, 429, 293, 286, 287, 288, 52, 482, 483, 484, 41, 485, 79, 315, 316, 317, 318, 74, 289, 290, 291, 292, 294, 295, 296, 297, 611, 612, 613, 614, 615, 616, 617, 629, 630, 631, 632, 643, 644, 645, 646, 647, 648, 649, 650, 635, 636, 637] (by decide +kernel) (by decide +kernel)
set_option maxRecDepth 20000 in
theorem gL_law_X5_survivor : GoodIn wsL_law (wsV RL 100 RX5 yX5_survivor wsX5_survivor) := goodIn_app (goodIn_of _ (by decide +kernel)) ggL_law_X5_survivor
set_option maxRecDepth 20000 in
theorem ggL_law_X6_survivor : GoodIn wsL_law wsX6_survivor := goodIn_r _ [489, 97, 439, 440, 441, 5, 442, 224, 225, 226, 227, 153, 154, 155, 343, 344, 345, 346, 618, 619, 620, 621, 622, 623, 624, 625, 626, 627, 628] (by decide +kernel) (by decide +kernel)
set_option maxRecDepth 20000 in
theorem gL_law_X6_survivor : GoodIn wsL_law (wsV RL 103 RX6 yX6_survivor wsX6_survivor) := goodIn_app (goodIn_of _ (by decide +kernel)) ggL_law_X6_survivor
set_option maxRecDepth 20000 in
theorem ggL_law_X5_agreed : GoodIn wsL_law wsX5_agreed := goodIn_r _ [493, 15, 115, 113, 494, 495, 496, 41, 497, 79, 285, 286, 287, 33, 288, 52, 498, 499, 500, 501, 72, 294, 295, 296, 297, 315, 316, 317, 318, 74, 289, 290, 291, 292, 293, 611, 612, 613, 614, 615, 616, 617, 629, 630, 631, 632, 643, 644, 645, 646, 647, 648, 649, 650, 635, 636, 637] (by decide +kernel) (by decide +kernel)
set_option maxRecDepth 20000 in
theorem gL_law_X5_agreed : GoodIn wsL_law (wsV RL 104 RX5 yX5_agreed wsX5_agreed) := goodIn_app (goodIn_of _ (by decide +kernel)) ggL_law_X5_agreed
set_option maxRecDepth 20000 in
theorem ggL_law_X6_agreed : GoodIn wsL_law wsX6_agreed := goodIn_r _ [505, 97, 506, 507, 508, 5, 509, 335, 336, 337, 338, 224, 225, 226, 227, 343, 344, 345, 346, 618, 619, 620, 621, 622, 623, 624, 625, 626, 627, 628] (by decide +kernel) (by decide +kernel)
set_option maxRecDepth 20000 in
theorem gL_law_X6_agreed : GoodIn wsL_law (wsV RL 107 RX6 yX6_agreed wsX6_agreed) := goodIn_app (goodIn_of _ (by decide +kernel)) ggL_law_X6_agreed
set_option maxRecDepth 20000 in
theorem ggL_law_X5_freeDistance : GoodIn wsL_law wsX5_freeDistance := goodIn_r _ [513, 15, 113, 25, 514, 515, 516, 33, 517, 293, 286, 287, 288, 52, 518, 84, 85, 86, 519, 203, 204, 205, 206, 188, 189, 190, 520, 521, 522, 523, 524, 432, 433, 434, 53, 306, 192, 193, 194, 47, 195, 196, 197, 198, 199, 200, 201, 525, 526, 527, 528, 611, 612, 613, 614, 615, 616, 617, 629, 630, 631, 632, 635, 636, 637] (by decide +kernel) (by decide +kernel)
set_option maxRecDepth 20000 in
theorem gL_law_X5_freeDistance : GoodIn wsL_law (wsV RL 108 RX5 yX5_freeDistance wsX5_freeDistance) := goodIn_app (goodIn_of _ (by decide +kernel)) ggL_law_X5_freeDistance
set_option maxRecDepth 20000 in
theorem ggL_law_X6_freeDistance : GoodIn wsL_law wsX6_freeDistance := goodIn_r _ [532, 104, 533, 534, 535, 5, 536, 224, 225, 226, 227, 97, 537, 538, 539, 540, 232, 233, 234, 235, 220, 221, 222, 223, 618, 619, 620, 621, 622, 623, 624, 625, 626, 627, 628] (by decide +kernel) (by decide +kernel)
set_option maxRecDepth 20000 in
theorem gL_law_X6_freeDistance : GoodIn wsL_law (wsV RL 111 RX6 yX6_freeDistance wsX6_freeDistance) := goodIn_app (goodIn_of _ (by decide +kernel)) ggL_law_X6_freeDistance
set_option maxRecDepth 20000 in
theorem ggL_law_X5_hasIdleRing : GoodIn wsL_law wsX5_hasIdleRing := goodIn_r _ [544, 15, 113, 545, 546, 547, 33, 548, 549, 293, 286, 287, 288, 52, 550, 551, 552, 553, 524, 432, 433, 434, 53, 206, 188, 189, 190, 306, 192, 193, 194, 47, 195, 196, 197, 198, 199, 200, 201, 519, 203, 204, 205, 611, 612, 613, 614, 615, 616, 617, 629, 630, 631, 632, 635, 636, 637] (by decide +kernel) (by decide +kernel)
set_option maxRecDepth 20000 in
theorem gL_law_X5_hasIdleRing : GoodIn wsL_law (wsV RL 112 RX5 yX5_hasIdleRing wsX5_hasIdleRing) := goodIn_app (goodIn_of _ (by decide +kernel)) ggL_law_X5_hasIdleRing
set_option maxRecDepth 20000 in
theorem ggL_law_X6_hasIdleRing : GoodIn wsL_law wsX6_hasIdleRing := goodIn_r _ [557, 224, 225, 226, 5, 227, 97, 558, 559, 560, 561, 220, 221, 222, 223, 537, 538, 539, 540, 232, 233, 234, 235, 618, 619, 620, 621, 622, 623, 624, 625, 626, 627, 628] (by decide +kernel) (by decide +kernel)
set_option maxRecDepth 20000 in
theorem gL_law_X6_hasIdleRing : GoodIn wsL_law (wsV RL 115 RX6 yX6_hasIdleRing wsX6_hasIdleRing) := goodIn_app (goodIn_of _ (by decide +kernel)) ggL_law_X6_hasIdleRing
set_option maxRecDepth 20000 in
theorem ggL_law_X5_wrongBits : GoodIn wsL_law wsX5_wrongBits := goodIn_r _ [565, 15, 115, 280, 114, 175, 566, 567, 568, 569, 465, 456, 611, 612, 613, 614, 615, 616, 617, 629, 630, 631, 632, 643, 644, 645, 646, 647, 648, 649, 650, 638, 639, 640, 641, 642] (by decide +kernel) (by decide +kernel)
set_option maxRecDepth 20000 in
theorem gL_law_X5_wrongBits : GoodIn wsL_law (wsV RL 116 RX5 yX5_wrongBits wsX5_wrongBits) := goodIn_app (goodIn_of _ (by decide +kernel)) ggL_law_X5_wrongBits
set_option maxRecDepth 20000 in
theorem ggL_law_X6_wrongBits : GoodIn wsL_law wsX6_wrongBits := goodIn_r _ [573, 97, 618, 619, 620, 621, 622, 623, 624, 625, 626, 627, 628] (by decide +kernel) (by decide +kernel)
set_option maxRecDepth 20000 in
theorem gL_law_X6_wrongBits : GoodIn wsL_law (wsV RL 119 RX6 yX6_wrongBits wsX6_wrongBits) := goodIn_app (goodIn_of _ (by decide +kernel)) ggL_law_X6_wrongBits
set_option maxRecDepth 20000 in
theorem ggL_law_X5_count : GoodIn wsL_law wsX5_count := goodIn_r _ [577, 15, 113, 240, 116, 578, 166, 114, 175, 579, 115, 165, 280, 359, 279, 19, 23, 176, 254, 255, 256, 2, 257, 580, 581, 582, 583, 249, 584, 585, 586, 587, 447, 360, 308, 309, 41, 310, 72, 285, 286, 287, 33, 288, 52, 588, 589, 590, 591, 498, 499, 500, 501, 592, 593, 594, 595, 596, 597, 598, 611, 612, 613, 614, 615, 616, 617, 629, 630, 631, 632, 635, 636, 637, 638, 639, 640, 641, 642, 643, 644, 645, 646, 647, 648, 649, 650, 633, 634] (by decide +kernel) (by decide +kernel)
set_option maxRecDepth 20000 in
theorem gL_law_X5_count : GoodIn wsL_law (wsV RL 120 RX5 yX5_count wsX5_count) := goodIn_app (goodIn_of _ (by decide +kernel)) ggL_law_X5_count
set_option maxRecDepth 20000 in
theorem ggL_law_X6_count : GoodIn wsL_law wsX6_count := goodIn_r _ [602, 97, 160, 211, 228, 229, 230, 5, 231, 603, 604, 605, 606, 335, 336, 337, 338, 224, 225, 226, 227, 607, 608, 609, 610, 618, 619, 620, 621, 622, 623, 624, 625, 626, 627, 628] (by decide +kernel) (by decide +kernel)
set_option maxRecDepth 20000 in
theorem gL_law_X6_count : GoodIn wsL_law (wsV RL 123 RX6 yX6_count wsX6_count) := goodIn_app (goodIn_of _ (by decide +kernel)) ggL_law_X6_count
