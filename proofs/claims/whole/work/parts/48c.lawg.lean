set_option maxHeartbeats 4000000 in
set_option maxRecDepth 100000 in
theorem ggL_law_X6_got : GoodIn wsL_law wsX6_got := goodIn_r _ [504, 27, 505, 366, 367, 25, 368, 83, 51, 590, 591, 592, 593, 594, 595, 596, 597, 598, 627, 628] rfl (by decide +kernel)
set_option maxHeartbeats 4000000 in
set_option maxRecDepth 100000 in
theorem gL_law_X6_got : GoodIn wsL_law (wsV RL 41 RX6 yX6_got wsX6_got) := goodIn_app (goodIn_of _ (by decide +kernel)) ggL_law_X6_got
set_option maxHeartbeats 4000000 in
set_option maxRecDepth 100000 in
theorem ggL_law_X7_got : GoodIn wsL_law wsX7_got := goodIn_r _ [509, 194, 113, 599, 600, 601, 602, 603, 604, 605, 606, 607, 608, 609, 610, 611, 612, 613, 614, 615, 616, 617, 618, 619, 620, 621, 622, 623] rfl (by decide +kernel)
set_option maxHeartbeats 4000000 in
set_option maxRecDepth 100000 in
theorem gL_law_X7_got : GoodIn wsL_law (wsV RL 44 RX7 yX7_got wsX7_got) := goodIn_app (goodIn_of _ (by decide +kernel)) ggL_law_X7_got
set_option maxHeartbeats 4000000 in
set_option maxRecDepth 100000 in
theorem ggL_law_X6_gotLen : GoodIn wsL_law wsX6_gotLen := goodIn_r _ [513, 27, 311, 312, 313, 25, 314, 83, 590, 591, 592, 593, 594, 595, 596, 597, 598, 627, 628] rfl (by decide +kernel)
set_option maxHeartbeats 4000000 in
set_option maxRecDepth 100000 in
theorem gL_law_X6_gotLen : GoodIn wsL_law (wsV RL 45 RX6 yX6_gotLen wsX6_gotLen) := goodIn_app (goodIn_of _ (by decide +kernel)) ggL_law_X6_gotLen
set_option maxHeartbeats 4000000 in
set_option maxRecDepth 100000 in
theorem ggL_law_X7_gotLen : GoodIn wsL_law wsX7_gotLen := goodIn_r _ [517, 194, 599, 600, 601, 602, 603, 604, 605, 606, 607, 608, 609, 610, 611, 612, 613, 614, 615, 616, 617, 618, 619, 620, 621, 622, 623] rfl (by decide +kernel)
set_option maxHeartbeats 4000000 in
set_option maxRecDepth 100000 in
theorem gL_law_X7_gotLen : GoodIn wsL_law (wsV RL 49 RX7 yX7_gotLen wsX7_gotLen) := goodIn_app (goodIn_of _ (by decide +kernel)) ggL_law_X7_gotLen
set_option maxHeartbeats 4000000 in
set_option maxRecDepth 100000 in
theorem ggL_law_X6_corrupt : GoodIn wsL_law wsX6_corrupt := goodIn_r _ [521, 23, 440, 441, 2, 442, 201, 202, 203, 522, 523, 524, 25, 525, 83, 51, 590, 591, 592, 593, 594, 595, 596, 597, 598, 627, 628] rfl (by decide +kernel)
set_option maxHeartbeats 4000000 in
set_option maxRecDepth 100000 in
theorem gL_law_X6_corrupt : GoodIn wsL_law (wsV RL 50 RX6 yX6_corrupt wsX6_corrupt) := goodIn_app (goodIn_of _ (by decide +kernel)) ggL_law_X6_corrupt
set_option maxHeartbeats 4000000 in
set_option maxRecDepth 100000 in
theorem ggL_law_X7_corrupt : GoodIn wsL_law wsX7_corrupt := goodIn_r _ [529, 111, 110, 489, 490, 491, 5, 492, 599, 600, 601, 602, 603, 604, 605, 606, 607, 608, 609, 610, 611, 612, 613, 614, 615, 616, 617, 618, 619, 620, 621, 622, 623] rfl (by decide +kernel)
set_option maxHeartbeats 4000000 in
set_option maxRecDepth 100000 in
theorem gL_law_X7_corrupt : GoodIn wsL_law (wsV RL 54 RX7 yX7_corrupt wsX7_corrupt) := goodIn_app (goodIn_of _ (by decide +kernel)) ggL_law_X7_corrupt
set_option maxHeartbeats 4000000 in
set_option maxRecDepth 100000 in
theorem ggL_law_X6_drop : GoodIn wsL_law wsX6_drop := goodIn_r _ [533, 23, 440, 441, 2, 442, 334, 335, 336, 25, 337, 83, 79, 80, 81, 82, 590, 591, 592, 593, 594, 595, 596, 597, 598, 627, 628] rfl (by decide +kernel)
set_option maxHeartbeats 4000000 in
set_option maxRecDepth 100000 in
theorem gL_law_X6_drop : GoodIn wsL_law (wsV RL 55 RX6 yX6_drop wsX6_drop) := goodIn_app (goodIn_of _ (by decide +kernel)) ggL_law_X6_drop
set_option maxHeartbeats 4000000 in
set_option maxRecDepth 100000 in
theorem ggL_law_X7_drop : GoodIn wsL_law wsX7_drop := goodIn_r _ [537, 111, 489, 490, 491, 5, 492, 599, 600, 601, 602, 603, 604, 605, 606, 607, 608, 609, 610, 611, 612, 613, 614, 615, 616, 617, 618, 619, 620, 621, 622, 623] rfl (by decide +kernel)
set_option maxHeartbeats 4000000 in
set_option maxRecDepth 100000 in
theorem gL_law_X7_drop : GoodIn wsL_law (wsV RL 58 RX7 yX7_drop wsX7_drop) := goodIn_app (goodIn_of _ (by decide +kernel)) ggL_law_X7_drop
set_option maxHeartbeats 4000000 in
set_option maxRecDepth 100000 in
theorem ggL_law_X6_rekey : GoodIn wsL_law wsX6_rekey := goodIn_r _ [541, 78, 21, 15, 327, 328, 2, 329, 542, 543, 544, 32, 545, 69, 62, 61, 269, 213, 214, 18, 215, 40, 216, 217, 218, 219, 39, 220, 221, 222, 38, 223, 224, 225, 226, 227, 228, 45, 546, 230, 231, 232, 274, 234, 235, 236, 41, 237, 238, 239, 240, 47, 241, 242, 243, 244, 245, 246, 247, 248, 249, 250, 251, 46, 252, 253, 254, 255, 256, 257, 258, 259, 260, 547, 548, 549, 550, 88, 261, 262, 263, 264, 265, 266, 267, 268, 68, 270, 271, 272, 273, 275, 85, 86, 87, 89, 67, 90, 91, 92, 66, 93, 94, 95, 590, 591, 592, 593, 594, 595, 596, 597, 598, 632, 633, 634, 635, 636, 637, 638, 639, 640, 624, 625, 626, 641, 642, 643, 644, 645, 646] rfl (by decide +kernel)
set_option maxHeartbeats 4000000 in
set_option maxRecDepth 100000 in
theorem gL_law_X6_rekey : GoodIn wsL_law (wsV RL 59 RX6 yX6_rekey wsX6_rekey) := goodIn_app (goodIn_of _ (by decide +kernel)) ggL_law_X6_rekey
set_option maxHeartbeats 4000000 in
set_option maxRecDepth 100000 in
theorem ggL_law_X7_rekey : GoodIn wsL_law wsX7_rekey := goodIn_r _ [554, 192, 118, 102, 120, 101, 103, 280, 281, 282, 5, 283, 116, 117, 284, 285, 286, 287, 114, 288, 289, 290, 291, 292, 293, 294, 295, 296, 297, 298, 299, 115, 185, 300, 301, 302, 303, 304, 305, 306, 119, 105, 107, 599, 600, 601, 602, 603, 604, 605, 606, 607, 608, 609, 610, 611, 612, 613, 614, 615, 616, 617, 618, 619, 620, 621, 622, 623] rfl (by decide +kernel)
set_option maxHeartbeats 4000000 in
set_option maxRecDepth 100000 in
theorem gL_law_X7_rekey : GoodIn wsL_law (wsV RL 62 RX7 yX7_rekey wsX7_rekey) := goodIn_app (goodIn_of _ (by decide +kernel)) ggL_law_X7_rekey
set_option maxHeartbeats 4000000 in
set_option maxRecDepth 100000 in
theorem ggL_law_X6_wireAt : GoodIn wsL_law wsX6_wireAt := goodIn_r _ [558, 23, 440, 441, 2, 442, 505, 366, 367, 25, 368, 83, 51, 590, 591, 592, 593, 594, 595, 596, 597, 598, 627, 628] rfl (by decide +kernel)
set_option maxHeartbeats 4000000 in
set_option maxRecDepth 100000 in
theorem gL_law_X6_wireAt : GoodIn wsL_law (wsV RL 63 RX6 yX6_wireAt wsX6_wireAt) := goodIn_app (goodIn_of _ (by decide +kernel)) ggL_law_X6_wireAt
set_option maxHeartbeats 4000000 in
set_option maxRecDepth 100000 in
theorem ggL_law_X7_wireAt : GoodIn wsL_law wsX7_wireAt := goodIn_r _ [562, 111, 110, 489, 490, 491, 5, 492, 599, 600, 601, 602, 603, 604, 605, 606, 607, 608, 609, 610, 611, 612, 613, 614, 615, 616, 617, 618, 619, 620, 621, 622, 623] rfl (by decide +kernel)
set_option maxHeartbeats 4000000 in
set_option maxRecDepth 100000 in
theorem gL_law_X7_wireAt : GoodIn wsL_law (wsV RL 66 RX7 yX7_wireAt wsX7_wireAt) := goodIn_app (goodIn_of _ (by decide +kernel)) ggL_law_X7_wireAt
set_option maxHeartbeats 4000000 in
set_option maxRecDepth 100000 in
theorem ggL_law_X6_count : GoodIn wsL_law wsX6_count := goodIn_r _ [566, 26, 78, 21, 567, 568, 569, 2, 570, 23, 334, 335, 336, 25, 337, 83, 311, 312, 313, 314, 547, 548, 549, 32, 550, 88, 571, 572, 573, 574, 67, 575, 576, 577, 66, 578, 95, 579, 580, 581, 582, 583, 584, 585, 590, 591, 592, 593, 594, 595, 596, 597, 598, 627, 628, 632, 633, 634, 635, 636, 637, 638, 639, 640, 645, 646] rfl (by decide +kernel)
set_option maxHeartbeats 4000000 in
set_option maxRecDepth 100000 in
theorem gL_law_X6_count : GoodIn wsL_law (wsV RL 67 RX6 yX6_count wsX6_count) := goodIn_app (goodIn_of _ (by decide +kernel)) ggL_law_X6_count
set_option maxHeartbeats 4000000 in
set_option maxRecDepth 100000 in
theorem ggL_law_X7_count : GoodIn wsL_law wsX7_count := goodIn_r _ [589, 111, 192, 107, 109, 103, 193, 599, 600, 601, 602, 603, 604, 605, 606, 607, 608, 609, 610, 611, 612, 613, 614, 615, 616, 617, 618, 619, 620, 621, 622, 623] rfl (by decide +kernel)
set_option maxHeartbeats 4000000 in
set_option maxRecDepth 100000 in
theorem gL_law_X7_count : GoodIn wsL_law (wsV RL 70 RX7 yX7_count wsX7_count) := goodIn_app (goodIn_of _ (by decide +kernel)) ggL_law_X7_count
