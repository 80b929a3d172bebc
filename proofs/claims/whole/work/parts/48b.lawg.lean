set_option maxHeartbeats 4000000 in
set_option maxRecDepth 100000 in
theorem ggL_law_X6_init : GoodIn wsL_law wsX6_init := goodIn_r _ [8, 9, 10, 11, 12, 13, 14, 15, 16, 17, 18, 19, 20, 21, 22, 23, 24, 25, 26, 27, 28, 29, 30, 31, 32, 33, 34, 35, 36, 37, 38, 39, 40, 41, 42, 43, 44, 45, 46, 47, 48, 49, 50, 51, 52, 53, 54, 55, 56, 57, 58, 59, 60, 61, 62, 63, 64, 65, 66, 67, 68, 69, 70, 71, 72, 73, 74, 75, 76, 77, 2, 78, 79, 80, 81, 82, 83, 84, 85, 86, 87, 88, 89, 90, 91, 92, 93, 94, 95, 96, 591, 592, 593, 594, 595, 596, 597, 598, 599, 625, 626, 627, 628, 629, 630, 631, 632, 633, 634, 635, 636, 637, 638, 639, 640, 641, 642, 643, 644, 645, 646, 647] rfl (by decide +kernel)
set_option maxHeartbeats 4000000 in
set_option maxRecDepth 100000 in
theorem gL_law_X6_init : GoodIn wsL_law (wsX6_init) := ggL_law_X6_init
set_option maxHeartbeats 4000000 in
set_option maxRecDepth 100000 in
theorem ggL_law_X7_init : GoodIn wsL_law wsX7_init := goodIn_r _ [99, 100, 10, 11, 12, 101, 102, 103, 104, 105, 106, 107, 108, 109, 110, 111, 112, 113, 114, 115, 116, 117, 118, 119, 120, 121, 122, 123, 124, 125, 126, 127, 128, 129, 130, 131, 132, 133, 134, 135, 136, 137, 138, 139, 140, 141, 142, 143, 144, 145, 146, 147, 148, 149, 150, 151, 152, 153, 154, 155, 156, 157, 158, 159, 160, 161, 162, 163, 164, 165, 166, 167, 168, 169, 170, 171, 172, 173, 174, 175, 176, 177, 178, 179, 180, 181, 182, 183, 184, 185, 186, 187, 188, 189, 190, 191, 5, 192, 193, 194, 195, 600, 601, 602, 603, 604, 605, 606, 607, 608, 609, 610, 611, 612, 613, 614, 615, 616, 617, 618, 619, 620, 621, 622, 623, 624] rfl (by decide +kernel)
set_option maxHeartbeats 4000000 in
set_option maxRecDepth 100000 in
theorem gL_law_X7_init : GoodIn wsL_law (wsX7_init) := ggL_law_X7_init
set_option maxHeartbeats 4000000 in
set_option maxRecDepth 100000 in
theorem ggL_law_X6_init_ : GoodIn wsL_law wsX6_init_ := goodIn_r _ [78, 13, 23, 21, 26, 27, 79, 80, 81, 82, 25, 83, 84, 85, 86, 87, 29, 88, 89, 90, 65, 91, 92, 93, 64, 94, 95, 96, 591, 592, 593, 594, 595, 596, 597, 598, 599, 628, 629, 630, 631, 632, 633, 634, 635, 636, 637, 638, 646, 647] rfl (by decide +kernel)
set_option maxHeartbeats 4000000 in
set_option maxRecDepth 100000 in
theorem gL_law_X6_init_ : GoodIn wsL_law (wsV RL 13 RX6 yX6_init_ wsX6_init_) := goodIn_app (goodIn_of _ (by decide +kernel)) ggL_law_X6_init_
set_option maxHeartbeats 4000000 in
set_option maxRecDepth 100000 in
theorem ggL_law_X7_init_ : GoodIn wsL_law wsX7_init_ := goodIn_r _ [192, 101, 193, 112, 194, 195, 600, 601, 602, 603, 604, 605, 606, 607, 608, 609, 610, 611, 612, 613, 614, 615, 616, 617, 618, 619, 620, 621, 622, 623, 624] rfl (by decide +kernel)
set_option maxHeartbeats 4000000 in
set_option maxRecDepth 100000 in
theorem gL_law_X7_init_ : GoodIn wsL_law (wsV RL 16 RX7 yX7_init_ wsX7_init_) := goodIn_app (goodIn_of _ (by decide +kernel)) ggL_law_X7_init_
set_option maxHeartbeats 4000000 in
set_option maxRecDepth 100000 in
theorem ggL_law_X6_setPsk : GoodIn wsL_law wsX6_setPsk := goodIn_r _ [201, 79, 13, 202, 203, 2, 204, 591, 592, 593, 594, 595, 596, 597, 598, 599] rfl (by decide +kernel)
set_option maxHeartbeats 4000000 in
set_option maxRecDepth 100000 in
theorem gL_law_X6_setPsk : GoodIn wsL_law (wsV RL 17 RX6 yX6_setPsk wsX6_setPsk) := goodIn_app (goodIn_of _ (by decide +kernel)) ggL_law_X6_setPsk
set_option maxHeartbeats 4000000 in
set_option maxRecDepth 100000 in
theorem ggL_law_X7_setPsk : GoodIn wsL_law wsX7_setPsk := goodIn_r _ [208, 193, 101, 600, 601, 602, 603, 604, 605, 606, 607, 608, 609, 610, 611, 612, 613, 614, 615, 616, 617, 618, 619, 620, 621, 622, 623, 624] rfl (by decide +kernel)
set_option maxHeartbeats 4000000 in
set_option maxRecDepth 100000 in
theorem gL_law_X7_setPsk : GoodIn wsL_law (wsV RL 21 RX7 yX7_setPsk wsX7_setPsk) := goodIn_app (goodIn_of _ (by decide +kernel)) ggL_law_X7_setPsk
set_option maxHeartbeats 4000000 in
set_option maxRecDepth 100000 in
theorem ggL_law_X6_open : GoodIn wsL_law wsX6_open := goodIn_r _ [212, 79, 19, 14, 13, 15, 21, 213, 214, 215, 18, 216, 37, 217, 218, 219, 220, 36, 221, 222, 223, 35, 224, 225, 226, 227, 228, 229, 42, 230, 231, 232, 233, 234, 235, 236, 237, 38, 238, 239, 240, 241, 44, 242, 243, 244, 245, 246, 247, 248, 249, 250, 251, 252, 43, 253, 254, 255, 256, 257, 258, 259, 260, 261, 262, 263, 264, 29, 265, 59, 60, 89, 266, 267, 268, 269, 54, 66, 270, 271, 272, 273, 274, 275, 276, 86, 87, 88, 90, 65, 91, 92, 93, 64, 94, 95, 96, 591, 592, 593, 594, 595, 596, 597, 598, 599, 625, 626, 627, 639, 640, 641, 642, 630, 631, 632, 633, 634, 635, 636, 637, 638, 646, 647] rfl (by decide +kernel)
set_option maxHeartbeats 4000000 in
set_option maxRecDepth 100000 in
theorem gL_law_X6_open : GoodIn wsL_law (wsV RL 22 RX6 yX6_open wsX6_open) := goodIn_app (goodIn_of _ (by decide +kernel)) ggL_law_X6_open
set_option maxHeartbeats 4000000 in
set_option maxRecDepth 100000 in
theorem ggL_law_X7_open : GoodIn wsL_law wsX7_open := goodIn_r _ [280, 193, 119, 121, 101, 104, 281, 282, 283, 5, 284, 117, 118, 285, 286, 287, 288, 115, 289, 290, 291, 292, 293, 294, 295, 296, 297, 298, 299, 300, 116, 186, 301, 302, 303, 304, 305, 306, 307, 120, 102, 103, 106, 108, 600, 601, 602, 603, 604, 605, 606, 607, 608, 609, 610, 611, 612, 613, 614, 615, 616, 617, 618, 619, 620, 621, 622, 623, 624] rfl (by decide +kernel)
set_option maxHeartbeats 4000000 in
set_option maxRecDepth 100000 in
theorem gL_law_X7_open : GoodIn wsL_law (wsV RL 25 RX7 yX7_open wsX7_open) := goodIn_app (goodIn_of _ (by decide +kernel)) ggL_law_X7_open
set_option maxHeartbeats 4000000 in
set_option maxRecDepth 100000 in
theorem ggL_law_X6_put : GoodIn wsL_law wsX6_put := goodIn_r _ [311, 26, 202, 203, 2, 204, 312, 313, 314, 25, 315, 84, 316, 317, 318, 319, 48, 591, 592, 593, 594, 595, 596, 597, 598, 599, 628, 629] rfl (by decide +kernel)
set_option maxHeartbeats 4000000 in
set_option maxRecDepth 100000 in
theorem gL_law_X6_put : GoodIn wsL_law (wsV RL 26 RX6 yX6_put wsX6_put) := goodIn_app (goodIn_of _ (by decide +kernel)) ggL_law_X6_put
set_option maxHeartbeats 4000000 in
set_option maxRecDepth 100000 in
theorem ggL_law_X7_put : GoodIn wsL_law wsX7_put := goodIn_r _ [323, 194, 113, 600, 601, 602, 603, 604, 605, 606, 607, 608, 609, 610, 611, 612, 613, 614, 615, 616, 617, 618, 619, 620, 621, 622, 623, 624] rfl (by decide +kernel)
set_option maxHeartbeats 4000000 in
set_option maxRecDepth 100000 in
theorem gL_law_X7_put : GoodIn wsL_law (wsV RL 30 RX7 yX7_put wsX7_put) := goodIn_app (goodIn_of _ (by decide +kernel)) ggL_law_X7_put
set_option maxHeartbeats 4000000 in
set_option maxRecDepth 100000 in
theorem ggL_law_X6_send : GoodIn wsL_law wsX6_send := goodIn_r _ [327, 79, 21, 26, 23, 328, 329, 2, 330, 331, 332, 333, 334, 335, 336, 337, 25, 338, 84, 339, 340, 341, 29, 342, 66, 89, 90, 58, 59, 61, 343, 313, 314, 315, 344, 81, 82, 83, 345, 317, 318, 319, 48, 346, 347, 348, 349, 350, 351, 352, 353, 57, 354, 70, 355, 356, 357, 358, 359, 360, 361, 362, 363, 364, 365, 366, 367, 368, 369, 370, 371, 372, 373, 374, 71, 375, 376, 377, 378, 379, 380, 381, 382, 383, 384, 385, 386, 387, 388, 389, 390, 391, 392, 393, 394, 395, 396, 397, 54, 60, 270, 214, 215, 18, 216, 37, 217, 218, 219, 220, 36, 221, 222, 223, 35, 224, 225, 226, 227, 228, 229, 42, 271, 272, 273, 274, 275, 235, 236, 237, 38, 238, 239, 240, 241, 44, 242, 243, 244, 245, 246, 247, 248, 249, 250, 251, 252, 43, 253, 254, 255, 256, 257, 258, 259, 260, 261, 231, 232, 233, 80, 591, 592, 593, 594, 595, 596, 597, 598, 599, 628, 629, 630, 631, 632, 633, 634, 635, 636, 637, 638, 643, 644, 645, 625, 626, 627, 639, 640, 641, 642] rfl (by decide +kernel)
set_option maxHeartbeats 4000000 in
set_option maxRecDepth 100000 in
theorem gL_law_X6_send : GoodIn wsL_law (wsV RL 31 RX6 yX6_send wsX6_send) := goodIn_app (goodIn_of _ (by decide +kernel)) ggL_law_X6_send
set_option maxHeartbeats 4000000 in
set_option maxRecDepth 100000 in
theorem ggL_law_X7_send : GoodIn wsL_law wsX7_send := goodIn_r _ [401, 193, 112, 111, 104, 106, 194, 113, 118, 402, 403, 404, 5, 405, 406, 407, 408, 409, 188, 187, 410, 411, 412, 413, 414, 415, 416, 417, 418, 419, 420, 421, 102, 422, 423, 424, 425, 426, 427, 428, 429, 430, 431, 432, 433, 434, 435, 436, 119, 103, 121, 281, 282, 283, 284, 117, 285, 286, 287, 288, 115, 289, 290, 291, 292, 293, 294, 295, 296, 297, 298, 299, 300, 116, 186, 301, 302, 303, 600, 601, 602, 603, 604, 605, 606, 607, 608, 609, 610, 611, 612, 613, 614, 615, 616, 617, 618, 619, 620, 621, 622, 623, 624] rfl (by decide +kernel)
set_option maxHeartbeats 4000000 in
set_option maxRecDepth 100000 in
theorem gL_law_X7_send : GoodIn wsL_law (wsV RL 35 RX7 yX7_send wsX7_send) := goodIn_app (goodIn_of _ (by decide +kernel)) ggL_law_X7_send
set_option maxHeartbeats 4000000 in
set_option maxRecDepth 100000 in
theorem ggL_law_X6_deliver : GoodIn wsL_law wsX6_deliver := goodIn_r _ [440, 79, 23, 21, 27, 441, 442, 2, 443, 328, 329, 330, 335, 336, 337, 25, 338, 84, 444, 445, 446, 29, 447, 89, 65, 448, 449, 450, 451, 66, 452, 453, 454, 455, 456, 367, 368, 369, 48, 370, 343, 313, 314, 315, 394, 395, 396, 397, 54, 60, 61, 270, 214, 215, 18, 216, 37, 217, 218, 219, 220, 36, 221, 222, 223, 35, 224, 225, 226, 227, 228, 229, 42, 271, 272, 273, 274, 275, 235, 236, 237, 38, 238, 239, 240, 241, 44, 242, 243, 244, 245, 246, 247, 248, 249, 250, 251, 252, 43, 253, 254, 255, 256, 257, 258, 259, 260, 261, 231, 232, 233, 457, 458, 459, 460, 461, 462, 463, 64, 464, 96, 95, 465, 466, 467, 468, 469, 470, 471, 472, 473, 474, 475, 476, 477, 478, 479, 480, 58, 59, 344, 81, 82, 83, 351, 352, 353, 57, 354, 70, 355, 356, 357, 358, 359, 360, 361, 362, 363, 364, 365, 366, 371, 372, 373, 374, 71, 375, 376, 377, 378, 379, 380, 381, 382, 383, 384, 385, 386, 387, 388, 389, 390, 391, 392, 393, 345, 317, 318, 319, 481, 482, 483, 484, 591, 592, 593, 594, 595, 596, 597, 598, 599, 628, 629, 630, 631, 632, 633, 634, 635, 636, 637, 638, 625, 626, 627, 639, 640, 641, 642, 646, 647, 643, 644, 645] rfl (by decide +kernel)
set_option maxHeartbeats 4000000 in
set_option maxRecDepth 100000 in
theorem gL_law_X6_deliver : GoodIn wsL_law (wsV RL 36 RX6 yX6_deliver wsX6_deliver) := goodIn_app (goodIn_of _ (by decide +kernel)) ggL_law_X6_deliver
set_option maxHeartbeats 4000000 in
set_option maxRecDepth 100000 in
theorem ggL_law_X7_deliver : GoodIn wsL_law wsX7_deliver := goodIn_r _ [488, 193, 111, 112, 104, 118, 108, 109, 489, 110, 114, 195, 490, 491, 492, 5, 493, 494, 495, 496, 497, 433, 434, 435, 436, 119, 103, 121, 281, 282, 283, 284, 117, 285, 286, 287, 288, 115, 289, 290, 291, 292, 293, 294, 295, 296, 297, 298, 299, 300, 116, 186, 301, 302, 303, 498, 499, 500, 501, 406, 407, 408, 409, 188, 187, 410, 411, 412, 413, 414, 415, 416, 417, 418, 419, 420, 421, 102, 422, 423, 424, 425, 426, 427, 428, 429, 430, 431, 432, 600, 601, 602, 603, 604, 605, 606, 607, 608, 609, 610, 611, 612, 613, 614, 615, 616, 617, 618, 619, 620, 621, 622, 623, 624] rfl (by decide +kernel)
set_option maxHeartbeats 4000000 in
set_option maxRecDepth 100000 in
theorem gL_law_X7_deliver : GoodIn wsL_law (wsV RL 40 RX7 yX7_deliver wsX7_deliver) := goodIn_app (goodIn_of _ (by decide +kernel)) ggL_law_X7_deliver
