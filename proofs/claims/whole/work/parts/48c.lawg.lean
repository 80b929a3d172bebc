set_option maxHeartbeats 4000000 in
set_option maxRecDepth 100000 in
theorem ggL_law_X6_got : GoodIn wsL_law wsX6_got := goodIn_r _ [505, 27, 506, 367, 368, 25, 369, 84, 48, 591, 592, 593, 594, 595, 596, 597, 598, 599, 628, 629] rfl (by decide +kernel)
set_option maxHeartbeats 4000000 in
set_option maxRecDepth 100000 in
theorem gL_law_X6_got : GoodIn wsL_law (wsV RL 41 RX6 yX6_got wsX6_got) := goodIn_app (goodIn_of _ (by decide +kernel)) ggL_law_X6_got
set_option maxHeartbeats 4000000 in
set_option maxRecDepth 100000 in
theorem ggL_law_X7_got : GoodIn wsL_law wsX7_got := goodIn_r _ [510, 195, 114, 600, 601, 602, 603, 604, 605, 606, 607, 608, 609, 610, 611, 612, 613, 614, 615, 616, 617, 618, 619, 620, 621, 622, 623, 624] rfl (by decide +kernel)
set_option maxHeartbeats 4000000 in
set_option maxRecDepth 100000 in
theorem gL_law_X7_got : GoodIn wsL_law (wsV RL 44 RX7 yX7_got wsX7_got) := goodIn_app (goodIn_of _ (by decide +kernel)) ggL_law_X7_got
set_option maxHeartbeats 4000000 in
set_option maxRecDepth 100000 in
theorem ggL_law_X6_gotLen : GoodIn wsL_law wsX6_gotLen := goodIn_r _ [514, 27, 312, 313, 314, 25, 315, 84, 591, 592, 593, 594, 595, 596, 597, 598, 599, 628, 629] rfl (by decide +kernel)
set_option maxHeartbeats 4000000 in
set_option maxRecDepth 100000 in
theorem gL_law_X6_gotLen : GoodIn wsL_law (wsV RL 45 RX6 yX6_gotLen wsX6_gotLen) := goodIn_app (goodIn_of _ (by decide +kernel)) ggL_law_X6_gotLen
set_option maxHeartbeats 4000000 in
set_option maxRecDepth 100000 in
theorem ggL_law_X7_gotLen : GoodIn wsL_law wsX7_gotLen := goodIn_r _ [518, 195, 600, 601, 602, 603, 604, 605, 606, 607, 608, 609, 610, 611, 612, 613, 614, 615, 616, 617, 618, 619, 620, 621, 622, 623, 624] rfl (by decide +kernel)
set_option maxHeartbeats 4000000 in
set_option maxRecDepth 100000 in
theorem gL_law_X7_gotLen : GoodIn wsL_law (wsV RL 49 RX7 yX7_gotLen wsX7_gotLen) := goodIn_app (goodIn_of _ (by decide +kernel)) ggL_law_X7_gotLen
set_option maxHeartbeats 4000000 in
set_option maxRecDepth 100000 in
theorem ggL_law_X6_corrupt : GoodIn wsL_law wsX6_corrupt := goodIn_r _ [522, 23, 441, 442, 2, 443, 202, 203, 204, 523, 524, 525, 25, 526, 84, 48, 591, 592, 593, 594, 595, 596, 597, 598, 599, 628, 629] rfl (by decide +kernel)
set_option maxHeartbeats 4000000 in
set_option maxRecDepth 100000 in
theorem gL_law_X6_corrupt : GoodIn wsL_law (wsV RL 50 RX6 yX6_corrupt wsX6_corrupt) := goodIn_app (goodIn_of _ (by decide +kernel)) ggL_law_X6_corrupt
set_option maxHeartbeats 4000000 in
set_option maxRecDepth 100000 in
theorem ggL_law_X7_corrupt : GoodIn wsL_law wsX7_corrupt := goodIn_r _ [530, 112, 111, 490, 491, 492, 5, 493, 600, 601, 602, 603, 604, 605, 606, 607, 608, 609, 610, 611, 612, 613, 614, 615, 616, 617, 618, 619, 620, 621, 622, 623, 624] rfl (by decide +kernel)
set_option maxHeartbeats 4000000 in
set_option maxRecDepth 100000 in
theorem gL_law_X7_corrupt : GoodIn wsL_law (wsV RL 54 RX7 yX7_corrupt wsX7_corrupt) := goodIn_app (goodIn_of _ (by decide +kernel)) ggL_law_X7_corrupt
set_option maxHeartbeats 4000000 in
set_option maxRecDepth 100000 in
theorem ggL_law_X6_drop : GoodIn wsL_law wsX6_drop := goodIn_r _ [534, 23, 441, 442, 2, 443, 335, 336, 337, 25, 338, 84, 80, 81, 82, 83, 591, 592, 593, 594, 595, 596, 597, 598, 599, 628, 629] rfl (by decide +kernel)
set_option maxHeartbeats 4000000 in
set_option maxRecDepth 100000 in
theorem gL_law_X6_drop : GoodIn wsL_law (wsV RL 55 RX6 yX6_drop wsX6_drop) := goodIn_app (goodIn_of _ (by decide +kernel)) ggL_law_X6_drop
set_option maxHeartbeats 4000000 in
set_option maxRecDepth 100000 in
theorem ggL_law_X7_drop : GoodIn wsL_law wsX7_drop := goodIn_r _ [538, 112, 490, 491, 492, 5, 493, 600, 601, 602, 603, 604, 605, 606, 607, 608, 609, 610, 611, 612, 613, 614, 615, 616, 617, 618, 619, 620, 621, 622, 623, 624] rfl (by decide +kernel)
set_option maxHeartbeats 4000000 in
set_option maxRecDepth 100000 in
theorem gL_law_X7_drop : GoodIn wsL_law (wsV RL 58 RX7 yX7_drop wsX7_drop) := goodIn_app (goodIn_of _ (by decide +kernel)) ggL_law_X7_drop
set_option maxHeartbeats 4000000 in
set_option maxRecDepth 100000 in
theorem ggL_law_X6_rekey : GoodIn wsL_law wsX6_rekey := goodIn_r _ [542, 79, 21, 15, 328, 329, 2, 330, 543, 544, 545, 29, 546, 54, 60, 59, 270, 214, 215, 18, 216, 37, 217, 218, 219, 220, 36, 221, 222, 223, 35, 224, 225, 226, 227, 228, 229, 42, 547, 231, 232, 233, 275, 235, 236, 237, 38, 238, 239, 240, 241, 44, 242, 243, 244, 245, 246, 247, 248, 249, 250, 251, 252, 43, 253, 254, 255, 256, 257, 258, 259, 260, 261, 548, 549, 550, 551, 89, 262, 263, 264, 265, 266, 267, 268, 269, 66, 271, 272, 273, 274, 276, 86, 87, 88, 90, 65, 91, 92, 93, 64, 94, 95, 96, 591, 592, 593, 594, 595, 596, 597, 598, 599, 630, 631, 632, 633, 634, 635, 636, 637, 638, 625, 626, 627, 639, 640, 641, 642, 646, 647] rfl (by decide +kernel)
set_option maxHeartbeats 4000000 in
set_option maxRecDepth 100000 in
theorem gL_law_X6_rekey : GoodIn wsL_law (wsV RL 59 RX6 yX6_rekey wsX6_rekey) := goodIn_app (goodIn_of _ (by decide +kernel)) ggL_law_X6_rekey
set_option maxHeartbeats 4000000 in
set_option maxRecDepth 100000 in
theorem ggL_law_X7_rekey : GoodIn wsL_law wsX7_rekey := goodIn_r _ [555, 193, 119, 103, 121, 102, 104, 281, 282, 283, 5, 284, 117, 118, 285, 286, 287, 288, 115, 289, 290, 291, 292, 293, 294, 295, 296, 297, 298, 299, 300, 116, 186, 301, 302, 303, 304, 305, 306, 307, 120, 106, 108, 600, 601, 602, 603, 604, 605, 606, 607, 608, 609, 610, 611, 612, 613, 614, 615, 616, 617, 618, 619, 620, 621, 622, 623, 624] rfl (by decide +kernel)
set_option maxHeartbeats 4000000 in
set_option maxRecDepth 100000 in
theorem gL_law_X7_rekey : GoodIn wsL_law (wsV RL 62 RX7 yX7_rekey wsX7_rekey) := goodIn_app (goodIn_of _ (by decide +kernel)) ggL_law_X7_rekey
set_option maxHeartbeats 4000000 in
set_option maxRecDepth 100000 in
theorem ggL_law_X6_wireAt : GoodIn wsL_law wsX6_wireAt := goodIn_r _ [559, 23, 441, 442, 2, 443, 506, 367, 368, 25, 369, 84, 48, 591, 592, 593, 594, 595, 596, 597, 598, 599, 628, 629] rfl (by decide +kernel)
set_option maxHeartbeats 4000000 in
set_option maxRecDepth 100000 in
theorem gL_law_X6_wireAt : GoodIn wsL_law (wsV RL 63 RX6 yX6_wireAt wsX6_wireAt) := goodIn_app (goodIn_of _ (by decide +kernel)) ggL_law_X6_wireAt
set_option maxHeartbeats 4000000 in
set_option maxRecDepth 100000 in
theorem ggL_law_X7_wireAt : GoodIn wsL_law wsX7_wireAt := goodIn_r _ [563, 112, 111, 490, 491, 492, 5, 493, 600, 601, 602, 603, 604, 605, 606, 607, 608, 609, 610, 611, 612, 613, 614, 615, 616, 617, 618, 619, 620, 621, 622, 623, 624] rfl (by decide +kernel)
set_option maxHeartbeats 4000000 in
set_option maxRecDepth 100000 in
theorem gL_law_X7_wireAt : GoodIn wsL_law (wsV RL 66 RX7 yX7_wireAt wsX7_wireAt) := goodIn_app (goodIn_of _ (by decide +kernel)) ggL_law_X7_wireAt
set_option maxHeartbeats 4000000 in
set_option maxRecDepth 100000 in
theorem ggL_law_X6_count : GoodIn wsL_law wsX6_count := goodIn_r _ [567, 26, 79, 21, 568, 569, 570, 2, 571, 23, 335, 336, 337, 25, 338, 84, 312, 313, 314, 315, 548, 549, 550, 29, 551, 89, 572, 573, 574, 575, 65, 576, 577, 578, 64, 579, 96, 580, 581, 582, 583, 584, 585, 586, 591, 592, 593, 594, 595, 596, 597, 598, 599, 628, 629, 630, 631, 632, 633, 634, 635, 636, 637, 638, 646, 647] rfl (by decide +kernel)
set_option maxHeartbeats 4000000 in
set_option maxRecDepth 100000 in
theorem gL_law_X6_count : GoodIn wsL_law (wsV RL 67 RX6 yX6_count wsX6_count) := goodIn_app (goodIn_of _ (by decide +kernel)) ggL_law_X6_count
set_option maxHeartbeats 4000000 in
set_option maxRecDepth 100000 in
theorem ggL_law_X7_count : GoodIn wsL_law wsX7_count := goodIn_r _ [590, 112, 193, 108, 110, 104, 194, 600, 601, 602, 603, 604, 605, 606, 607, 608, 609, 610, 611, 612, 613, 614, 615, 616, 617, 618, 619, 620, 621, 622, 623, 624] rfl (by decide +kernel)
set_option maxHeartbeats 4000000 in
set_option maxRecDepth 100000 in
theorem gL_law_X7_count : GoodIn wsL_law (wsV RL 70 RX7 yX7_count wsX7_count) := goodIn_app (goodIn_of _ (by decide +kernel)) ggL_law_X7_count
