/-! the law's words among the tables' -/
theorem mem_r {big : List Cond} (ws : List Cond) (ps : List Nat) (hp : ws = ps.filterMap (fun i => big[i]?)) : ∀ x ∈ ws, x ∈ big := by
  intro x hx
  rw [hp] at hx
  obtain ⟨i, -, hi⟩ := List.mem_filterMap.mp hx
  exact List.mem_of_getElem? hi
theorem app_in {a b T : List Cond} (ha : ∀ w ∈ a, w ∈ T) (hb : ∀ w ∈ b, w ∈ T) : ∀ w ∈ a ++ b, w ∈ T := fun w h => (List.mem_append.mp h).elim (ha w) (hb w)

set_option maxHeartbeats 4000000 in
set_option maxRecDepth 100000 in
theorem lin_wsL_law_r1 : ∀ x ∈ (wsL_law_r1 : List Cond), x ∈ lw_tbl := mem_r _ [37, 38, 28, 474, 475, 35, 39, 40, 41, 42, 43, 44, 70, 175, 176, 177, 45, 46, 29, 178, 81, 179, 83, 180] rfl

set_option maxHeartbeats 4000000 in
set_option maxRecDepth 100000 in
theorem lin_wsL_law_r2 : ∀ x ∈ (wsL_law_r2 : List Cond), x ∈ lw_tbl := mem_r _ [85, 31, 181, 182, 97, 98, 32, 113, 33, 48, 49, 50, 51, 52, 30, 71, 72, 73, 54, 55, 56, 57, 58, 59] rfl

set_option maxHeartbeats 4000000 in
set_option maxRecDepth 100000 in
theorem lin_wsL_law_r3 : ∀ x ∈ (wsL_law_r3 : List Cond), x ∈ lw_tbl := mem_r _ [87, 88, 89, 90, 100, 101, 102, 103, 104, 114, 115, 116, 117, 134, 135, 136, 118, 119, 34, 137, 131, 132, 133, 121] rfl

set_option maxHeartbeats 4000000 in
set_option maxRecDepth 100000 in
theorem lin_wsL_law_r4 : ∀ x ∈ (wsL_law_r4 : List Cond), x ∈ lw_tbl := mem_r _ [122, 123, 159, 160, 161, 162, 183, 163, 164, 165, 166, 91, 167, 168, 169, 170, 138, 139, 171, 172, 173, 174, 124, 125] rfl

set_option maxHeartbeats 4000000 in
set_option maxRecDepth 100000 in
theorem lin_wsL_law_r5 : ∀ x ∈ (wsL_law_r5 : List Cond), x ∈ lw_tbl := mem_r _ [476, 477, 478, 479, 548, 550, 551, 552, 624, 553, 625, 554, 555, 556, 557, 558, 559, 561, 563, 564, 565, 566, 567, 568] rfl

set_option maxHeartbeats 4000000 in
set_option maxRecDepth 100000 in
theorem lin_wsL_law_r6 : ∀ x ∈ (wsL_law_r6 : List Cond), x ∈ lw_tbl := mem_r _ [569, 480, 481, 482, 483, 484, 485, 486, 487, 488, 489, 490, 491, 492, 493, 494, 495, 496, 497, 498, 499, 500, 501, 502] rfl

set_option maxHeartbeats 4000000 in
set_option maxRecDepth 100000 in
theorem lin_wsL_law_r7 : ∀ x ∈ (wsL_law_r7 : List Cond), x ∈ lw_tbl := mem_r _ [503, 504, 505, 506, 507, 508, 509, 510, 511, 512, 513, 514, 515, 516, 517, 518, 519, 520, 521, 522, 523, 524, 525, 526] rfl

set_option maxHeartbeats 4000000 in
set_option maxRecDepth 100000 in
theorem lin_wsL_law_r8 : ∀ x ∈ (wsL_law_r8 : List Cond), x ∈ lw_tbl := mem_r _ [527, 528, 529, 530, 531, 532, 533, 534, 535, 536, 537, 538, 539, 540, 541, 542, 543, 570, 571, 572, 544, 545, 546, 547] rfl

set_option maxHeartbeats 4000000 in
set_option maxRecDepth 100000 in
theorem lin_wsL_law_r9 : ∀ x ∈ (wsL_law_r9 : List Cond), x ∈ lw_tbl := mem_r _ [549, 560, 562, 203, 626, 204, 205, 206, 207, 208, 209, 210, 627, 628, 629, 630, 211, 212, 213, 214, 215, 216, 217, 218] rfl

set_option maxHeartbeats 4000000 in
set_option maxRecDepth 100000 in
theorem lin_wsL_law_r10 : ∀ x ∈ (wsL_law_r10 : List Cond), x ∈ lw_tbl := mem_r _ [219, 221, 0, 222, 223, 224, 225, 226, 60, 227, 228, 229, 230, 231, 232, 233, 234, 235, 236, 237, 238, 239, 240, 241] rfl

set_option maxHeartbeats 4000000 in
set_option maxRecDepth 100000 in
theorem lin_wsL_law_r11 : ∀ x ∈ (wsL_law_r11 : List Cond), x ∈ lw_tbl := mem_r _ [242, 249, 243, 245, 1, 246, 247, 248, 251, 253, 2, 254, 255, 256, 257, 258, 260, 3, 261, 262, 264, 265, 266, 267] rfl

set_option maxHeartbeats 4000000 in
set_option maxRecDepth 100000 in
theorem lin_wsL_law_r12 : ∀ x ∈ (wsL_law_r12 : List Cond), x ∈ lw_tbl := mem_r _ [268, 269, 271, 4, 272, 273, 274, 275, 276, 277, 278, 279, 631, 632, 633, 634, 635, 637, 14, 638, 639, 641, 15, 642] rfl

set_option maxHeartbeats 4000000 in
set_option maxRecDepth 100000 in
theorem lin_wsL_law_r13 : ∀ x ∈ (wsL_law_r13 : List Cond), x ∈ lw_tbl := mem_r _ [643, 644, 645, 646, 647, 648, 649, 650, 651, 653, 16, 654, 655, 656, 657, 658, 660, 17, 661, 280, 281, 282, 283, 284] rfl

set_option maxHeartbeats 4000000 in
set_option maxRecDepth 100000 in
theorem lin_wsL_law_r14 : ∀ x ∈ (wsL_law_r14 : List Cond), x ∈ lw_tbl := mem_r _ [285, 286, 287, 288, 289, 290, 291, 666, 667, 668, 669, 292, 293, 294, 295, 296, 297, 298, 299, 301, 5, 302, 303, 304] rfl

set_option maxHeartbeats 4000000 in
set_option maxRecDepth 100000 in
theorem lin_wsL_law_r15 : ∀ x ∈ (wsL_law_r15 : List Cond), x ∈ lw_tbl := mem_r _ [305, 306, 307, 308, 309, 310, 311, 312, 313, 314, 315, 316, 317, 318, 319, 320, 321, 322, 323, 105, 325, 326, 327, 328] rfl

set_option maxHeartbeats 4000000 in
set_option maxRecDepth 100000 in
theorem lin_wsL_law_r16 : ∀ x ∈ (wsL_law_r16 : List Cond), x ∈ lw_tbl := mem_r _ [329, 330, 331, 332, 333, 334, 335, 336, 337, 338, 339, 340, 341, 342, 343, 345, 6, 346, 347, 349, 7, 350, 351, 353] rfl

set_option maxHeartbeats 4000000 in
set_option maxRecDepth 100000 in
theorem lin_wsL_law_r17 : ∀ x ∈ (wsL_law_r17 : List Cond), x ∈ lw_tbl := mem_r _ [8, 354, 355, 356, 357, 358, 360, 9, 361, 362, 364, 10, 365, 670, 671, 672, 673, 674, 676, 18, 677, 678, 680, 19] rfl

set_option maxHeartbeats 4000000 in
set_option maxRecDepth 100000 in
theorem lin_wsL_law_r18 : ∀ x ∈ (wsL_law_r18 : List Cond), x ∈ lw_tbl := mem_r _ [681, 682, 684, 20, 685, 686, 687, 688, 689, 690, 692, 21, 693, 694, 696, 22, 697, 698, 700, 23, 701, 702, 703, 704] rfl

set_option maxHeartbeats 4000000 in
set_option maxRecDepth 100000 in
theorem lin_wsL_law_r19 : ∀ x ∈ (wsL_law_r19 : List Cond), x ∈ lw_tbl := mem_r _ [705, 707, 24, 708, 366, 367, 368, 369, 370, 371, 372, 373, 374, 375, 376, 377, 379, 11, 380, 381, 382, 383, 384, 385] rfl

set_option maxHeartbeats 4000000 in
set_option maxRecDepth 100000 in
theorem lin_wsL_law_r20 : ∀ x ∈ (wsL_law_r20 : List Cond), x ∈ lw_tbl := mem_r _ [386, 388, 12, 389, 390, 391, 392, 393, 394, 395, 396, 397, 398, 399, 400, 401, 402, 403, 404, 405, 406, 407, 408, 409] rfl

set_option maxHeartbeats 4000000 in
set_option maxRecDepth 100000 in
theorem lin_wsL_law_r21 : ∀ x ∈ (wsL_law_r21 : List Cond), x ∈ lw_tbl := mem_r _ [410, 411, 412, 413, 709, 710, 711, 712, 725, 713, 715, 25, 716, 717, 719, 26, 720, 721, 722, 723, 724, 414, 415, 416] rfl

set_option maxHeartbeats 4000000 in
set_option maxRecDepth 100000 in
theorem lin_wsL_law_r22 : ∀ x ∈ (wsL_law_r22 : List Cond), x ∈ lw_tbl := mem_r _ [417, 418, 726, 727, 728, 729, 419, 420, 421, 422, 730, 731, 732, 733, 423, 424, 425, 426, 427, 428, 429, 430, 734, 735] rfl

set_option maxHeartbeats 4000000 in
set_option maxRecDepth 100000 in
theorem lin_wsL_law_r23 : ∀ x ∈ (wsL_law_r23 : List Cond), x ∈ lw_tbl := mem_r _ [736, 737, 431, 432, 433, 434, 738, 739, 740, 741, 435, 436, 437, 438, 439, 440, 441, 442, 443, 444, 445, 446, 447, 662] rfl

set_option maxHeartbeats 4000000 in
set_option maxRecDepth 100000 in
theorem lin_wsL_law_r24 : ∀ x ∈ (wsL_law_r24 : List Cond), x ∈ lw_tbl := mem_r _ [663, 664, 665, 448, 449, 450, 451, 742, 743, 744, 745, 452, 453, 454, 455, 456, 458, 13, 459, 460, 461, 462, 463, 464] rfl

set_option maxHeartbeats 4000000 in
set_option maxRecDepth 100000 in
theorem lin_wsL_law_r25 : ∀ x ∈ (wsL_law_r25 : List Cond), x ∈ lw_tbl := mem_r _ [465, 466, 467, 468, 469, 36, 470, 471, 472, 473, 746, 747, 748, 749] rfl

set_option maxHeartbeats 4000000 in
set_option maxRecDepth 100000 in
theorem lin_wsX60 : ∀ x ∈ (wsX60 : List Cond), x ∈ lw_tbl := mem_r _ [184, 186, 188, 190, 192, 194, 196, 198, 200] rfl

set_option maxHeartbeats 4000000 in
set_option maxRecDepth 100000 in
theorem lin_wsX70 : ∀ x ∈ (wsX70 : List Cond), x ∈ lw_tbl := mem_r _ [573, 575, 577, 579, 581, 583, 585, 587, 589, 591, 593, 595, 597, 599, 601, 603, 605, 607, 609, 611, 613, 615, 617, 619, 621] rfl

set_option maxHeartbeats 4000000 in
set_option maxRecDepth 100000 in
theorem lin_wsX20 : ∀ x ∈ (wsX20 : List Cond), x ∈ lw_tbl := mem_r _ [74, 76, 78] rfl

set_option maxHeartbeats 4000000 in
set_option maxRecDepth 100000 in
theorem lin_wsX00 : ∀ x ∈ (wsX00 : List Cond), x ∈ lw_tbl := mem_r _ [92, 94] rfl

set_option maxHeartbeats 4000000 in
set_option maxRecDepth 100000 in
theorem lin_wsX30 : ∀ x ∈ (wsX30 : List Cond), x ∈ lw_tbl := mem_r _ [106, 108, 110] rfl

set_option maxHeartbeats 4000000 in
set_option maxRecDepth 100000 in
theorem lin_wsX10 : ∀ x ∈ (wsX10 : List Cond), x ∈ lw_tbl := mem_r _ [140, 142, 144, 146, 148, 150, 152, 154, 156] rfl

set_option maxHeartbeats 4000000 in
set_option maxRecDepth 100000 in
theorem lin_wsX40 : ∀ x ∈ (wsX40 : List Cond), x ∈ lw_tbl := mem_r _ [61, 63, 65, 67] rfl

set_option maxHeartbeats 4000000 in
set_option maxRecDepth 100000 in
theorem lin_wsX50 : ∀ x ∈ (wsX50 : List Cond), x ∈ lw_tbl := mem_r _ [126, 128] rfl

set_option maxHeartbeats 4000000 in
set_option maxRecDepth 100000 in
theorem lin_lit33 : ∀ x ∈ ([] : List Cond), x ∈ lw_tbl := mem_r _ [] rfl

set_option maxHeartbeats 4000000 in
set_option maxRecDepth 100000 in
theorem wsL_law_in : ∀ w ∈ wsL_law, w ∈ lw_tbl := (app_in (app_in (app_in (app_in (app_in (app_in (app_in (app_in (app_in (app_in lin_wsL_law_r1 (app_in lin_wsL_law_r2 (app_in lin_wsL_law_r3 (app_in lin_wsL_law_r4 (app_in lin_wsL_law_r5 (app_in lin_wsL_law_r6 (app_in lin_wsL_law_r7 (app_in lin_wsL_law_r8 (app_in lin_wsL_law_r9 (app_in lin_wsL_law_r10 (app_in lin_wsL_law_r11 (app_in lin_wsL_law_r12 (app_in lin_wsL_law_r13 (app_in lin_wsL_law_r14 (app_in lin_wsL_law_r15 (app_in lin_wsL_law_r16 (app_in lin_wsL_law_r17 (app_in lin_wsL_law_r18 (app_in lin_wsL_law_r19 (app_in lin_wsL_law_r20 (app_in lin_wsL_law_r21 (app_in lin_wsL_law_r22 (app_in lin_wsL_law_r23 (app_in lin_wsL_law_r24 lin_wsL_law_r25)))))))))))))))))))))))) lin_wsX60) lin_wsX70) lin_wsX20) lin_wsX00) lin_wsX30) lin_wsX10) lin_wsX40) lin_wsX50) lin_lit33)
