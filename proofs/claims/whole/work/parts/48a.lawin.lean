/-! the law's words among the tables' -/
theorem mem_r {big : List Cond} (ws : List Cond) (ps : List Nat) (hp : ws = ps.filterMap (fun i => big[i]?)) : ∀ x ∈ ws, x ∈ big := by
  intro x hx
  rw [hp] at hx
  obtain ⟨i, -, hi⟩ := List.mem_filterMap.mp hx
  exact List.mem_of_getElem? hi
theorem app_in {a b T : List Cond} (ha : ∀ w ∈ a, w ∈ T) (hb : ∀ w ∈ b, w ∈ T) : ∀ w ∈ a ++ b, w ∈ T := fun w h => (List.mem_append.mp h).elim (ha w) (hb w)

set_option maxHeartbeats 4000000 in
set_option maxRecDepth 100000 in
theorem lin_wsL_law_r1 : ∀ x ∈ (wsL_law_r1 : List Cond), x ∈ lw_tbl := mem_r _ [37, 38, 28, 476, 477, 35, 39, 40, 41, 42, 43, 44, 70, 177, 178, 179, 45, 46, 29, 180, 81, 181, 83, 182] rfl

set_option maxHeartbeats 4000000 in
set_option maxRecDepth 100000 in
theorem lin_wsL_law_r2 : ∀ x ∈ (wsL_law_r2 : List Cond), x ∈ lw_tbl := mem_r _ [85, 31, 183, 184, 97, 32, 48, 49, 50, 51, 52, 30, 71, 72, 73, 54, 55, 56, 57, 58, 59, 87, 88, 89] rfl

set_option maxHeartbeats 4000000 in
set_option maxRecDepth 100000 in
theorem lin_wsL_law_r3 : ∀ x ∈ (wsL_law_r3 : List Cond), x ∈ lw_tbl := mem_r _ [90, 98, 99, 100, 101, 102, 134, 104, 105, 33, 135, 136, 137, 138, 120, 121, 34, 139, 133, 107, 108, 109, 110, 111] rfl

set_option maxHeartbeats 4000000 in
set_option maxRecDepth 100000 in
theorem lin_wsL_law_r4 : ∀ x ∈ (wsL_law_r4 : List Cond), x ∈ lw_tbl := mem_r _ [123, 124, 125, 161, 162, 163, 164, 185, 165, 166, 167, 168, 91, 169, 170, 171, 172, 140, 141, 173, 174, 175, 176, 126] rfl

set_option maxHeartbeats 4000000 in
set_option maxRecDepth 100000 in
theorem lin_wsL_law_r5 : ∀ x ∈ (wsL_law_r5 : List Cond), x ∈ lw_tbl := mem_r _ [127, 478, 479, 480, 481, 550, 552, 553, 554, 626, 555, 627, 556, 557, 558, 559, 560, 561, 563, 565, 566, 567, 568, 569] rfl

set_option maxHeartbeats 4000000 in
set_option maxRecDepth 100000 in
theorem lin_wsL_law_r6 : ∀ x ∈ (wsL_law_r6 : List Cond), x ∈ lw_tbl := mem_r _ [570, 571, 482, 483, 484, 485, 486, 487, 488, 489, 490, 491, 492, 493, 494, 495, 496, 497, 498, 499, 500, 501, 502, 503] rfl

set_option maxHeartbeats 4000000 in
set_option maxRecDepth 100000 in
theorem lin_wsL_law_r7 : ∀ x ∈ (wsL_law_r7 : List Cond), x ∈ lw_tbl := mem_r _ [504, 505, 506, 507, 508, 509, 510, 511, 512, 513, 514, 515, 516, 517, 518, 519, 520, 521, 522, 523, 524, 525, 526, 527] rfl

set_option maxHeartbeats 4000000 in
set_option maxRecDepth 100000 in
theorem lin_wsL_law_r8 : ∀ x ∈ (wsL_law_r8 : List Cond), x ∈ lw_tbl := mem_r _ [528, 529, 530, 531, 532, 533, 534, 535, 536, 537, 538, 539, 540, 541, 542, 543, 544, 545, 572, 573, 574, 546, 547, 548] rfl

set_option maxHeartbeats 4000000 in
set_option maxRecDepth 100000 in
theorem lin_wsL_law_r9 : ∀ x ∈ (wsL_law_r9 : List Cond), x ∈ lw_tbl := mem_r _ [549, 551, 562, 564, 205, 628, 206, 207, 208, 209, 210, 211, 212, 629, 630, 631, 632, 213, 214, 215, 216, 217, 218, 219] rfl

set_option maxHeartbeats 4000000 in
set_option maxRecDepth 100000 in
theorem lin_wsL_law_r10 : ∀ x ∈ (wsL_law_r10 : List Cond), x ∈ lw_tbl := mem_r _ [220, 221, 223, 0, 224, 225, 226, 227, 228, 60, 229, 230, 231, 232, 233, 234, 235, 236, 237, 238, 239, 240, 241, 242] rfl

set_option maxHeartbeats 4000000 in
set_option maxRecDepth 100000 in
theorem lin_wsL_law_r11 : ∀ x ∈ (wsL_law_r11 : List Cond), x ∈ lw_tbl := mem_r _ [243, 244, 251, 245, 247, 1, 248, 249, 250, 253, 255, 2, 256, 257, 258, 259, 260, 262, 3, 263, 264, 266, 267, 268] rfl

set_option maxHeartbeats 4000000 in
set_option maxRecDepth 100000 in
theorem lin_wsL_law_r12 : ∀ x ∈ (wsL_law_r12 : List Cond), x ∈ lw_tbl := mem_r _ [269, 270, 271, 273, 4, 274, 275, 276, 277, 278, 279, 280, 281, 633, 634, 635, 636, 637, 639, 14, 640, 641, 643, 15] rfl

set_option maxHeartbeats 4000000 in
set_option maxRecDepth 100000 in
theorem lin_wsL_law_r13 : ∀ x ∈ (wsL_law_r13 : List Cond), x ∈ lw_tbl := mem_r _ [644, 645, 646, 647, 648, 649, 650, 651, 652, 653, 655, 16, 656, 657, 658, 659, 660, 662, 17, 663, 282, 283, 284, 285] rfl

set_option maxHeartbeats 4000000 in
set_option maxRecDepth 100000 in
theorem lin_wsL_law_r14 : ∀ x ∈ (wsL_law_r14 : List Cond), x ∈ lw_tbl := mem_r _ [286, 287, 288, 289, 290, 291, 292, 293, 668, 669, 670, 671, 294, 295, 296, 297, 298, 299, 300, 301, 303, 5, 304, 305] rfl

set_option maxHeartbeats 4000000 in
set_option maxRecDepth 100000 in
theorem lin_wsL_law_r15 : ∀ x ∈ (wsL_law_r15 : List Cond), x ∈ lw_tbl := mem_r _ [306, 307, 308, 309, 310, 311, 312, 313, 314, 315, 316, 317, 318, 319, 320, 321, 322, 323, 324, 325, 112, 327, 328, 329] rfl

set_option maxHeartbeats 4000000 in
set_option maxRecDepth 100000 in
theorem lin_wsL_law_r16 : ∀ x ∈ (wsL_law_r16 : List Cond), x ∈ lw_tbl := mem_r _ [330, 331, 332, 333, 334, 335, 336, 337, 338, 339, 340, 341, 342, 343, 344, 345, 347, 6, 348, 349, 351, 7, 352, 353] rfl

set_option maxHeartbeats 4000000 in
set_option maxRecDepth 100000 in
theorem lin_wsL_law_r17 : ∀ x ∈ (wsL_law_r17 : List Cond), x ∈ lw_tbl := mem_r _ [355, 8, 356, 357, 358, 359, 360, 362, 9, 363, 364, 366, 10, 367, 672, 673, 674, 675, 676, 678, 18, 679, 680, 682] rfl

set_option maxHeartbeats 4000000 in
set_option maxRecDepth 100000 in
theorem lin_wsL_law_r18 : ∀ x ∈ (wsL_law_r18 : List Cond), x ∈ lw_tbl := mem_r _ [19, 683, 684, 686, 20, 687, 688, 689, 690, 691, 692, 694, 21, 695, 696, 698, 22, 699, 700, 702, 23, 703, 704, 705] rfl

set_option maxHeartbeats 4000000 in
set_option maxRecDepth 100000 in
theorem lin_wsL_law_r19 : ∀ x ∈ (wsL_law_r19 : List Cond), x ∈ lw_tbl := mem_r _ [706, 707, 709, 24, 710, 368, 369, 370, 371, 372, 373, 374, 375, 376, 377, 378, 379, 381, 11, 382, 383, 384, 385, 386] rfl

set_option maxHeartbeats 4000000 in
set_option maxRecDepth 100000 in
theorem lin_wsL_law_r20 : ∀ x ∈ (wsL_law_r20 : List Cond), x ∈ lw_tbl := mem_r _ [387, 388, 390, 12, 391, 392, 393, 394, 395, 396, 397, 398, 399, 400, 401, 402, 403, 404, 405, 406, 407, 408, 409, 410] rfl

set_option maxHeartbeats 4000000 in
set_option maxRecDepth 100000 in
theorem lin_wsL_law_r21 : ∀ x ∈ (wsL_law_r21 : List Cond), x ∈ lw_tbl := mem_r _ [411, 412, 413, 414, 415, 711, 712, 713, 714, 727, 715, 717, 25, 718, 719, 721, 26, 722, 723, 724, 725, 726, 416, 417] rfl

set_option maxHeartbeats 4000000 in
set_option maxRecDepth 100000 in
theorem lin_wsL_law_r22 : ∀ x ∈ (wsL_law_r22 : List Cond), x ∈ lw_tbl := mem_r _ [418, 419, 420, 728, 729, 730, 731, 421, 422, 423, 424, 732, 733, 734, 735, 425, 426, 427, 428, 429, 430, 431, 432, 736] rfl

set_option maxHeartbeats 4000000 in
set_option maxRecDepth 100000 in
theorem lin_wsL_law_r23 : ∀ x ∈ (wsL_law_r23 : List Cond), x ∈ lw_tbl := mem_r _ [737, 738, 739, 433, 434, 435, 436, 740, 741, 742, 743, 437, 438, 439, 440, 441, 442, 443, 444, 445, 446, 447, 448, 449] rfl

set_option maxHeartbeats 4000000 in
set_option maxRecDepth 100000 in
theorem lin_wsL_law_r24 : ∀ x ∈ (wsL_law_r24 : List Cond), x ∈ lw_tbl := mem_r _ [664, 665, 666, 667, 450, 451, 452, 453, 744, 745, 746, 747, 454, 455, 456, 457, 458, 460, 13, 461, 462, 463, 464, 465] rfl

set_option maxHeartbeats 4000000 in
set_option maxRecDepth 100000 in
theorem lin_wsL_law_r25 : ∀ x ∈ (wsL_law_r25 : List Cond), x ∈ lw_tbl := mem_r _ [466, 467, 468, 469, 470, 471, 36, 472, 473, 474, 475, 748, 749, 750, 751] rfl

set_option maxHeartbeats 4000000 in
set_option maxRecDepth 100000 in
theorem lin_wsX60 : ∀ x ∈ (wsX60 : List Cond), x ∈ lw_tbl := mem_r _ [186, 188, 190, 192, 194, 196, 198, 200, 202] rfl

set_option maxHeartbeats 4000000 in
set_option maxRecDepth 100000 in
theorem lin_wsX70 : ∀ x ∈ (wsX70 : List Cond), x ∈ lw_tbl := mem_r _ [575, 577, 579, 581, 583, 585, 587, 589, 591, 593, 595, 597, 599, 601, 603, 605, 607, 609, 611, 613, 615, 617, 619, 621, 623] rfl

set_option maxHeartbeats 4000000 in
set_option maxRecDepth 100000 in
theorem lin_wsX20 : ∀ x ∈ (wsX20 : List Cond), x ∈ lw_tbl := mem_r _ [74, 76, 78] rfl

set_option maxHeartbeats 4000000 in
set_option maxRecDepth 100000 in
theorem lin_wsX00 : ∀ x ∈ (wsX00 : List Cond), x ∈ lw_tbl := mem_r _ [92, 94] rfl

set_option maxHeartbeats 4000000 in
set_option maxRecDepth 100000 in
theorem lin_wsX10 : ∀ x ∈ (wsX10 : List Cond), x ∈ lw_tbl := mem_r _ [142, 144, 146, 148, 150, 152, 154, 156, 158] rfl

set_option maxHeartbeats 4000000 in
set_option maxRecDepth 100000 in
theorem lin_wsX40 : ∀ x ∈ (wsX40 : List Cond), x ∈ lw_tbl := mem_r _ [61, 63, 65, 67] rfl

set_option maxHeartbeats 4000000 in
set_option maxRecDepth 100000 in
theorem lin_wsX30 : ∀ x ∈ (wsX30 : List Cond), x ∈ lw_tbl := mem_r _ [113, 115, 117] rfl

set_option maxHeartbeats 4000000 in
set_option maxRecDepth 100000 in
theorem lin_wsX50 : ∀ x ∈ (wsX50 : List Cond), x ∈ lw_tbl := mem_r _ [128, 130] rfl

set_option maxHeartbeats 4000000 in
set_option maxRecDepth 100000 in
theorem lin_lit33 : ∀ x ∈ ([] : List Cond), x ∈ lw_tbl := mem_r _ [] rfl

set_option maxHeartbeats 4000000 in
set_option maxRecDepth 100000 in
theorem wsL_law_in : ∀ w ∈ wsL_law, w ∈ lw_tbl := (app_in (app_in (app_in (app_in (app_in (app_in (app_in (app_in (app_in (app_in lin_wsL_law_r1 (app_in lin_wsL_law_r2 (app_in lin_wsL_law_r3 (app_in lin_wsL_law_r4 (app_in lin_wsL_law_r5 (app_in lin_wsL_law_r6 (app_in lin_wsL_law_r7 (app_in lin_wsL_law_r8 (app_in lin_wsL_law_r9 (app_in lin_wsL_law_r10 (app_in lin_wsL_law_r11 (app_in lin_wsL_law_r12 (app_in lin_wsL_law_r13 (app_in lin_wsL_law_r14 (app_in lin_wsL_law_r15 (app_in lin_wsL_law_r16 (app_in lin_wsL_law_r17 (app_in lin_wsL_law_r18 (app_in lin_wsL_law_r19 (app_in lin_wsL_law_r20 (app_in lin_wsL_law_r21 (app_in lin_wsL_law_r22 (app_in lin_wsL_law_r23 (app_in lin_wsL_law_r24 lin_wsL_law_r25)))))))))))))))))))))))) lin_wsX60) lin_wsX70) lin_wsX20) lin_wsX00) lin_wsX10) lin_wsX40) lin_wsX30) lin_wsX50) lin_lit33)
