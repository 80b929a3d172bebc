set_option maxHeartbeats 4000000 in
set_option maxRecDepth 100000 in
theorem ggL_law_X6_init : GoodIn wsL_law wsX6_init := goodIn_r _ [8, 9, 10, 11, 12, 13, 14, 15, 16, 17, 18, 19, 20, 21, 22, 23, 24, 25, 26, 27, 28, 29, 30, 31, 32, 33, 34, 35, 36, 37, 38, 39, 40, 41, 42, 43, 44, 45, 46, 47, 48, 49, 50, 51, 52, 53, 54, 55, 56, 57, 58, 59, 60, 61, 62, 63, 64, 65, 66, 67, 68, 69, 70, 71, 72, 73, 74, 75, 76, 2, 77, 78, 79, 80, 81, 82, 83, 84, 85, 86, 87, 88, 89, 90, 91, 92, 93, 94, 95, 590, 591, 592, 593, 594, 595, 596, 597, 598, 624, 625, 626, 627, 628, 629, 630, 631, 632, 633, 634, 635, 636, 637, 638, 639, 640, 641, 642, 643, 644, 645, 646] rfl (by decide +kernel)
set_option maxHeartbeats 4000000 in
set_option maxRecDepth 100000 in
theorem gL_law_X6_init : GoodIn wsL_law (wsX6_init) := ggL_law_X6_init
set_option maxHeartbeats 4000000 in
set_option maxRecDepth 100000 in
theorem ggL_law_X7_init : GoodIn wsL_law wsX7_init := goodIn_r _ [98, 99, 10, 11, 12, 100, 101, 102, 103, 104, 105, 106, 107, 108, 109, 110, 111, 112, 113, 114, 115, 116, 117, 118, 119, 120, 121, 122, 123, 124, 125, 126, 127, 128, 129, 130, 131, 132, 133, 134, 135, 136, 137, 138, 139, 140, 141, 142, 143, 144, 145, 146, 147, 148, 149, 150, 151, 152, 153, 154, 155, 156, 157, 158, 159, 160, 161, 162, 163, 164, 165, 166, 167, 168, 169, 170, 171, 172, 173, 174, 175, 176, 177, 178, 179, 180, 181, 182, 183, 184, 185, 186, 187, 188, 189, 190, 5, 191, 192, 193, 194, 599, 600, 601, 602, 603, 604, 605, 606, 607, 608, 609, 610, 611, 612, 613, 614, 615, 616, 617, 618, 619, 620, 621, 622, 623] rfl (by decide +kernel)
set_option maxHeartbeats 4000000 in
set_option maxRecDepth 100000 in
theorem gL_law_X7_init : GoodIn wsL_law (wsX7_init) := ggL_law_X7_init
set_option maxHeartbeats 4000000 in
set_option maxRecDepth 100000 in
theorem ggL_law_X6_init_ : GoodIn wsL_law wsX6_init_ := goodIn_r _ [77, 13, 23, 21, 26, 27, 78, 79, 80, 81, 25, 82, 83, 84, 85, 86, 32, 87, 88, 89, 67, 90, 91, 92, 66, 93, 94, 95, 590, 591, 592, 593, 594, 595, 596, 597, 598, 627, 628, 632, 633, 634, 635, 636, 637, 638, 639, 640, 645, 646] rfl (by decide +kernel)
set_option maxHeartbeats 4000000 in
set_option maxRecDepth 100000 in
theorem gL_law_X6_init_ : GoodIn wsL_law (wsV RL 13 RX6 yX6_init_ wsX6_init_) := goodIn_app (goodIn_of _ (by decide +kernel)) ggL_law_X6_init_
set_option maxHeartbeats 4000000 in
set_option maxRecDepth 100000 in
theorem ggL_law_X7_init_ : GoodIn wsL_law wsX7_init_ := goodIn_r _ [191, 100, 192, 111, 193, 194, 599, 600, 601, 602, 603, 604, 605, 606, 607, 608, 609, 610, 611, 612, 613, 614, 615, 616, 617, 618, 619, 620, 621, 622, 623] rfl (by decide +kernel)
set_option maxHeartbeats 4000000 in
set_option maxRecDepth 100000 in
theorem gL_law_X7_init_ : GoodIn wsL_law (wsV RL 16 RX7 yX7_init_ wsX7_init_) := goodIn_app (goodIn_of _ (by decide +kernel)) ggL_law_X7_init_
set_option maxHeartbeats 4000000 in
set_option maxRecDepth 100000 in
theorem ggL_law_X6_setPsk : GoodIn wsL_law wsX6_setPsk := goodIn_r _ [200, 78, 13, 201, 202, 2, 203, 590, 591, 592, 593, 594, 595, 596, 597, 598] rfl (by decide +kernel)
set_option maxHeartbeats 4000000 in
set_option maxRecDepth 100000 in
theorem gL_law_X6_setPsk : GoodIn wsL_law (wsV RL 17 RX6 yX6_setPsk wsX6_setPsk) := goodIn_app (goodIn_of _ (by decide +kernel)) ggL_law_X6_setPsk
set_option maxHeartbeats 4000000 in
set_option maxRecDepth 100000 in
theorem ggL_law_X7_setPsk : GoodIn wsL_law wsX7_setPsk := goodIn_r _ [207, 192, 100, 599, 600, 601, 602, 603, 604, 605, 606, 607, 608, 609, 610, 611, 612, 613, 614, 615, 616, 617, 618, 619, 620, 621, 622, 623] rfl (by decide +kernel)
set_option maxHeartbeats 4000000 in
set_option maxRecDepth 100000 in
theorem gL_law_X7_setPsk : GoodIn wsL_law (wsV RL 21 RX7 yX7_setPsk wsX7_setPsk) := goodIn_app (goodIn_of _ (by decide +kernel)) ggL_law_X7_setPsk
set_option maxHeartbeats 4000000 in
set_option maxRecDepth 100000 in
theorem ggL_law_X6_open : GoodIn wsL_law wsX6_open := goodIn_r _ [211, 78, 19, 14, 13, 15, 21, 212, 213, 214, 18, 215, 40, 216, 217, 218, 219, 39, 220, 221, 222, 38, 223, 224, 225, 226, 227, 228, 45, 229, 230, 231, 232, 233, 234, 235, 236, 41, 237, 238, 239, 240, 47, 241, 242, 243, 244, 245, 246, 247, 248, 249, 250, 251, 46, 252, 253, 254, 255, 256, 257, 258, 259, 260, 261, 262, 263, 32, 264, 61, 62, 88, 265, 266, 267, 268, 69, 68, 269, 270, 271, 272, 273, 274, 275, 85, 86, 87, 89, 67, 90, 91, 92, 66, 93, 94, 95, 590, 591, 592, 593, 594, 595, 596, 597, 598, 624, 625, 626, 641, 642, 643, 644, 632, 633, 634, 635, 636, 637, 638, 639, 640, 645, 646] rfl (by decide +kernel)
set_option maxHeartbeats 4000000 in
set_option maxRecDepth 100000 in
theorem gL_law_X6_open : GoodIn wsL_law (wsV RL 22 RX6 yX6_open wsX6_open) := goodIn_app (goodIn_of _ (by decide +kernel)) ggL_law_X6_open
set_option maxHeartbeats 4000000 in
set_option maxRecDepth 100000 in
theorem ggL_law_X7_open : GoodIn wsL_law wsX7_open := goodIn_r _ [279, 192, 118, 120, 100, 103, 280, 281, 282, 5, 283, 116, 117, 284, 285, 286, 287, 114, 288, 289, 290, 291, 292, 293, 294, 295, 296, 297, 298, 299, 115, 185, 300, 301, 302, 303, 304, 305, 306, 119, 101, 102, 105, 107, 599, 600, 601, 602, 603, 604, 605, 606, 607, 608, 609, 610, 611, 612, 613, 614, 615, 616, 617, 618, 619, 620, 621, 622, 623] rfl (by decide +kernel)
set_option maxHeartbeats 4000000 in
set_option maxRecDepth 100000 in
theorem gL_law_X7_open : GoodIn wsL_law (wsV RL 25 RX7 yX7_open wsX7_open) := goodIn_app (goodIn_of _ (by decide +kernel)) ggL_law_X7_open
set_option maxHeartbeats 4000000 in
set_option maxRecDepth 100000 in
theorem ggL_law_X6_put : GoodIn wsL_law wsX6_put := goodIn_r _ [310, 26, 201, 202, 2, 203, 311, 312, 313, 25, 314, 83, 315, 316, 317, 318, 51, 590, 591, 592, 593, 594, 595, 596, 597, 598, 627, 628] rfl (by decide +kernel)
set_option maxHeartbeats 4000000 in
set_option maxRecDepth 100000 in
theorem gL_law_X6_put : GoodIn wsL_law (wsV RL 26 RX6 yX6_put wsX6_put) := goodIn_app (goodIn_of _ (by decide +kernel)) ggL_law_X6_put
set_option maxHeartbeats 4000000 in
set_option maxRecDepth 100000 in
theorem ggL_law_X7_put : GoodIn wsL_law wsX7_put := goodIn_r _ [322, 193, 112, 599, 600, 601, 602, 603, 604, 605, 606, 607, 608, 609, 610, 611, 612, 613, 614, 615, 616, 617, 618, 619, 620, 621, 622, 623] rfl (by decide +kernel)
set_option maxHeartbeats 4000000 in
set_option maxRecDepth 100000 in
theorem gL_law_X7_put : GoodIn wsL_law (wsV RL 30 RX7 yX7_put wsX7_put) := goodIn_app (goodIn_of _ (by decide +kernel)) ggL_law_X7_put
set_option maxHeartbeats 4000000 in
set_option maxRecDepth 100000 in
theorem ggL_law_X6_send : GoodIn wsL_law wsX6_send := goodIn_r _ [326, 78, 21, 26, 23, 327, 328, 2, 329, 330, 331, 332, 333, 334, 335, 336, 25, 337, 83, 338, 339, 340, 32, 341, 68, 88, 89, 70, 61, 63, 342, 312, 313, 314, 343, 80, 81, 82, 344, 316, 317, 318, 51, 345, 346, 347, 348, 349, 350, 351, 352, 30, 353, 55, 354, 355, 356, 357, 358, 359, 360, 361, 362, 363, 364, 365, 366, 367, 368, 369, 370, 371, 372, 373, 56, 374, 375, 376, 377, 378, 379, 380, 381, 382, 383, 384, 385, 386, 387, 388, 389, 390, 391, 392, 393, 394, 395, 396, 69, 62, 269, 213, 214, 18, 215, 40, 216, 217, 218, 219, 39, 220, 221, 222, 38, 223, 224, 225, 226, 227, 228, 45, 270, 271, 272, 273, 274, 234, 235, 236, 41, 237, 238, 239, 240, 47, 241, 242, 243, 244, 245, 246, 247, 248, 249, 250, 251, 46, 252, 253, 254, 255, 256, 257, 258, 259, 260, 230, 231, 232, 79, 590, 591, 592, 593, 594, 595, 596, 597, 598, 627, 628, 632, 633, 634, 635, 636, 637, 638, 639, 640, 629, 630, 631, 624, 625, 626, 641, 642, 643, 644] rfl (by decide +kernel)
set_option maxHeartbeats 4000000 in
set_option maxRecDepth 100000 in
theorem gL_law_X6_send : GoodIn wsL_law (wsV RL 31 RX6 yX6_send wsX6_send) := goodIn_app (goodIn_of _ (by decide +kernel)) ggL_law_X6_send
set_option maxHeartbeats 4000000 in
set_option maxRecDepth 100000 in
theorem ggL_law_X7_send : GoodIn wsL_law wsX7_send := goodIn_r _ [400, 192, 111, 110, 103, 105, 193, 112, 117, 401, 402, 403, 5, 404, 405, 406, 407, 408, 187, 186, 409, 410, 411, 412, 413, 414, 415, 416, 417, 418, 419, 420, 101, 421, 422, 423, 424, 425, 426, 427, 428, 429, 430, 431, 432, 433, 434, 435, 118, 102, 120, 280, 281, 282, 283, 116, 284, 285, 286, 287, 114, 288, 289, 290, 291, 292, 293, 294, 295, 296, 297, 298, 299, 115, 185, 300, 301, 302, 599, 600, 601, 602, 603, 604, 605, 606, 607, 608, 609, 610, 611, 612, 613, 614, 615, 616, 617, 618, 619, 620, 621, 622, 623] rfl (by decide +kernel)
set_option maxHeartbeats 4000000 in
set_option maxRecDepth 100000 in
theorem gL_law_X7_send : GoodIn wsL_law (wsV RL 35 RX7 yX7_send wsX7_send) := goodIn_app (goodIn_of _ (by decide +kernel)) ggL_law_X7_send
set_option maxHeartbeats 4000000 in
set_option maxRecDepth 100000 in
theorem ggL_law_X6_deliver : GoodIn wsL_law wsX6_deliver := goodIn_r _ [439, 78, 23, 21, 27, 440, 441, 2, 442, 327, 328, 329, 334, 335, 336, 25, 337, 83, 443, 444, 445, 32, 446, 88, 67, 447, 448, 449, 450, 68, 451, 452, 453, 454, 455, 366, 367, 368, 51, 369, 342, 312, 313, 314, 393, 394, 395, 396, 69, 62, 63, 269, 213, 214, 18, 215, 40, 216, 217, 218, 219, 39, 220, 221, 222, 38, 223, 224, 225, 226, 227, 228, 45, 270, 271, 272, 273, 274, 234, 235, 236, 41, 237, 238, 239, 240, 47, 241, 242, 243, 244, 245, 246, 247, 248, 249, 250, 251, 46, 252, 253, 254, 255, 256, 257, 258, 259, 260, 230, 231, 232, 456, 457, 458, 459, 460, 461, 462, 66, 463, 95, 94, 464, 465, 466, 467, 468, 469, 470, 471, 472, 473, 474, 475, 476, 477, 478, 479, 70, 61, 343, 80, 81, 82, 350, 351, 352, 30, 353, 55, 354, 355, 356, 357, 358, 359, 360, 361, 362, 363, 364, 365, 370, 371, 372, 373, 56, 374, 375, 376, 377, 378, 379, 380, 381, 382, 383, 384, 385, 386, 387, 388, 389, 390, 391, 392, 344, 316, 317, 318, 480, 481, 482, 483, 590, 591, 592, 593, 594, 595, 596, 597, 598, 627, 628, 632, 633, 634, 635, 636, 637, 638, 639, 640, 624, 625, 626, 641, 642, 643, 644, 645, 646, 629, 630, 631] rfl (by decide +kernel)
set_option maxHeartbeats 4000000 in
set_option maxRecDepth 100000 in
theorem gL_law_X6_deliver : GoodIn wsL_law (wsV RL 36 RX6 yX6_deliver wsX6_deliver) := goodIn_app (goodIn_of _ (by decide +kernel)) ggL_law_X6_deliver
set_option maxHeartbeats 4000000 in
set_option maxRecDepth 100000 in
theorem ggL_law_X7_deliver : GoodIn wsL_law wsX7_deliver := goodIn_r _ [487, 192, 110, 111, 103, 117, 107, 108, 488, 109, 113, 194, 489, 490, 491, 5, 492, 493, 494, 495, 496, 432, 433, 434, 435, 118, 102, 120, 280, 281, 282, 283, 116, 284, 285, 286, 287, 114, 288, 289, 290, 291, 292, 293, 294, 295, 296, 297, 298, 299, 115, 185, 300, 301, 302, 497, 498, 499, 500, 405, 406, 407, 408, 187, 186, 409, 410, 411, 412, 413, 414, 415, 416, 417, 418, 419, 420, 101, 421, 422, 423, 424, 425, 426, 427, 428, 429, 430, 431, 599, 600, 601, 602, 603, 604, 605, 606, 607, 608, 609, 610, 611, 612, 613, 614, 615, 616, 617, 618, 619, 620, 621, 622, 623] rfl (by decide +kernel)
set_option maxHeartbeats 4000000 in
set_option maxRecDepth 100000 in
theorem gL_law_X7_deliver : GoodIn wsL_law (wsV RL 40 RX7 yX7_deliver wsX7_deliver) := goodIn_app (goodIn_of _ (by decide +kernel)) ggL_law_X7_deliver
