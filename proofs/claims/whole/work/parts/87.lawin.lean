set_option maxRecDepth 20000 in
theorem wsL_in_r1 : GoodIn lw_tbl wsL_law_r1 := goodIn_r _ [79, 80, 73, 494, 495, 76, 780, 81, 82, 83, 84, 85, 86, 97, 108, 87, 88, 74, 109, 98, 99, 75, 110, 111] (by decide +kernel) (by decide +kernel)
set_option maxRecDepth 20000 in
theorem wsL_in_r2 : GoodIn lw_tbl wsL_law_r2 := goodIn_r _ [112, 113, 114, 115, 89, 90, 91, 92, 93, 100, 101, 102, 103, 104, 496, 497, 498, 499, 500, 501, 506, 502, 133, 134] (by decide +kernel) (by decide +kernel)
set_option maxRecDepth 20000 in
theorem wsL_in_r3 : GoodIn lw_tbl wsL_law_r3 := goodIn_r _ [135, 136, 140, 137, 138, 139, 141, 143, 0, 144, 525, 526, 527, 528, 532, 529, 530, 531, 145, 146, 147, 148, 533, 534] (by decide +kernel) (by decide +kernel)
set_option maxRecDepth 20000 in
theorem wsL_in_r4 : GoodIn lw_tbl wsL_law_r4 := goodIn_r _ [535, 536, 149, 150, 151, 152, 537, 538, 539, 540, 153, 154, 155, 156, 157, 158, 159, 160, 161, 162, 163, 164, 541, 542] (by decide +kernel) (by decide +kernel)
set_option maxRecDepth 20000 in
theorem wsL_in_r5 : GoodIn lw_tbl wsL_law_r5 := goodIn_r _ [543, 544, 165, 166, 167, 168, 545, 546, 547, 548, 169, 170, 171, 172, 173, 174, 175, 176, 549, 550, 551, 552, 503, 504] (by decide +kernel) (by decide +kernel)
set_option maxRecDepth 20000 in
theorem wsL_in_r6 : GoodIn lw_tbl wsL_law_r6 := goodIn_r _ [553, 555, 35, 556, 177, 178, 179, 180, 557, 558, 559, 560, 181, 182, 183, 184, 561, 562, 563, 564, 185, 186, 187, 188] (by decide +kernel) (by decide +kernel)
set_option maxRecDepth 20000 in
theorem wsL_in_r7 : GoodIn lw_tbl wsL_law_r7 := goodIn_r _ [189, 191, 1, 192, 473, 472, 193, 194, 195, 196, 197, 199, 2, 200, 201, 202, 203, 204, 205, 206, 207, 208, 209, 210] (by decide +kernel) (by decide +kernel)
set_option maxRecDepth 20000 in
theorem wsL_in_r8 : GoodIn lw_tbl wsL_law_r8 := goodIn_r _ [211, 212, 77, 213, 214, 215, 216, 217, 218, 219, 220, 221, 222, 223, 224, 226, 3, 227, 228, 229, 78, 230, 231, 232] (by decide +kernel) (by decide +kernel)
set_option maxRecDepth 20000 in
theorem wsL_in_r9 : GoodIn lw_tbl wsL_law_r9 := goodIn_r _ [233, 234, 235, 236, 237, 238, 239, 240, 241, 242, 243, 244, 245, 246, 247, 248, 249, 250, 251, 252, 253, 254, 255, 256] (by decide +kernel) (by decide +kernel)
set_option maxRecDepth 20000 in
theorem wsL_in_r10 : GoodIn lw_tbl wsL_law_r10 := goodIn_r _ [257, 258, 260, 4, 261, 262, 264, 5, 265, 266, 267, 269, 6, 270, 271, 272, 273, 274, 275, 276, 277, 278, 279, 281] (by decide +kernel) (by decide +kernel)
set_option maxRecDepth 20000 in
theorem wsL_in_r11 : GoodIn lw_tbl wsL_law_r11 := goodIn_r _ [7, 282, 284, 285, 283, 286, 287, 288, 289, 290, 291, 292, 293, 294, 296, 8, 297, 298, 299, 300, 301, 302, 304, 9] (by decide +kernel) (by decide +kernel)
set_option maxRecDepth 20000 in
theorem wsL_in_r12 : GoodIn lw_tbl wsL_law_r12 := goodIn_r _ [305, 306, 307, 308, 309, 310, 311, 313, 10, 314, 315, 316, 317, 318, 319, 320, 321, 322, 324, 11, 325, 326, 327, 328] (by decide +kernel) (by decide +kernel)
set_option maxRecDepth 20000 in
theorem wsL_in_r13 : GoodIn lw_tbl wsL_law_r13 := goodIn_r _ [329, 330, 331, 332, 333, 334, 335, 336, 337, 338, 339, 340, 341, 343, 12, 344, 345, 347, 13, 348, 349, 350, 351, 352] (by decide +kernel) (by decide +kernel)
set_option maxRecDepth 20000 in
theorem wsL_in_r14 : GoodIn lw_tbl wsL_law_r14 := goodIn_r _ [353, 354, 355, 356, 357, 358, 359, 360, 361, 362, 363, 364, 365, 367, 14, 368, 369, 371, 15, 372, 373, 374, 375, 376] (by decide +kernel) (by decide +kernel)
set_option maxRecDepth 20000 in
theorem wsL_in_r15 : GoodIn lw_tbl wsL_law_r15 := goodIn_r _ [377, 379, 16, 380, 381, 382, 383, 384, 385, 387, 17, 388, 389, 391, 18, 392, 393, 395, 19, 396, 397, 398, 400, 20] (by decide +kernel) (by decide +kernel)
set_option maxRecDepth 20000 in
theorem wsL_in_r16 : GoodIn lw_tbl wsL_law_r16 := goodIn_r _ [401, 402, 403, 404, 405, 406, 407, 408, 409, 410, 412, 21, 413, 414, 416, 22, 417, 418, 419, 421, 23, 422, 423, 425] (by decide +kernel) (by decide +kernel)
set_option maxRecDepth 20000 in
theorem wsL_in_r17 : GoodIn lw_tbl wsL_law_r17 := goodIn_r _ [24, 426, 427, 428, 430, 25, 431, 432, 433, 434, 435, 436, 438, 26, 439, 440, 442, 27, 443, 444, 446, 28, 447, 448] (by decide +kernel) (by decide +kernel)
set_option maxRecDepth 20000 in
theorem wsL_in_r18 : GoodIn lw_tbl wsL_law_r18 := goodIn_r _ [450, 29, 451, 452, 454, 30, 455, 456, 458, 31, 459, 460, 462, 32, 463, 464, 466, 33, 467, 468, 470, 34, 471, 603] (by decide +kernel) (by decide +kernel)
set_option maxRecDepth 20000 in
theorem wsL_in_r19 : GoodIn lw_tbl wsL_law_r19 := goodIn_r _ [604, 605, 606, 505, 607, 609, 36, 610, 507, 762, 595, 611, 613, 37, 614, 615, 617, 38, 618, 619, 621, 39, 622, 623] (by decide +kernel) (by decide +kernel)
set_option maxRecDepth 20000 in
theorem wsL_in_r20 : GoodIn lw_tbl wsL_law_r20 := goodIn_r _ [624, 625, 626, 628, 40, 629, 630, 632, 41, 633, 634, 636, 42, 637, 638, 640, 43, 641, 569, 570, 571, 599, 572, 573] (by decide +kernel) (by decide +kernel)
set_option maxRecDepth 20000 in
theorem wsL_in_r21 : GoodIn lw_tbl wsL_law_r21 := goodIn_r _ [574, 575, 576, 577, 578, 579, 580, 581, 582, 583, 584, 585, 586, 587, 588, 589, 590, 591, 592, 593, 594, 596, 597, 598] (by decide +kernel) (by decide +kernel)
set_option maxRecDepth 20000 in
theorem wsL_in_r22 : GoodIn lw_tbl wsL_law_r22 := goodIn_r _ [642, 644, 44, 645, 646, 647, 648, 650, 45, 651, 652, 654, 46, 655, 656, 658, 47, 659, 660, 662, 48, 663, 664, 666] (by decide +kernel) (by decide +kernel)
set_option maxRecDepth 20000 in
theorem wsL_in_r23 : GoodIn lw_tbl wsL_law_r23 := goodIn_r _ [49, 667, 668, 670, 50, 671, 672, 674, 51, 675, 676, 678, 52, 679, 600, 601, 602, 680, 682, 53, 683, 684, 686, 54] (by decide +kernel) (by decide +kernel)
set_option maxRecDepth 20000 in
theorem wsL_in_r24 : GoodIn lw_tbl wsL_law_r24 := goodIn_r _ [687, 688, 689, 690, 691, 693, 55, 694, 695, 697, 56, 698, 735, 740, 699, 701, 57, 702, 703, 705, 58, 706, 707, 709] (by decide +kernel) (by decide +kernel)
set_option maxRecDepth 20000 in
theorem wsL_in_r25 : GoodIn lw_tbl wsL_law_r25 := goodIn_r _ [59, 710, 711, 713, 60, 714, 715, 717, 61, 718, 719, 721, 62, 722, 723, 725, 63, 726, 727, 729, 64, 730, 731, 733] (by decide +kernel) (by decide +kernel)
set_option maxRecDepth 20000 in
theorem wsL_in_r26 : GoodIn lw_tbl wsL_law_r26 := goodIn_r _ [65, 734, 736, 738, 66, 739, 741, 743, 67, 744, 745, 747, 68, 748, 749, 751, 69, 752, 753, 754, 756, 70, 757, 758] (by decide +kernel) (by decide +kernel)
set_option maxRecDepth 20000 in
theorem wsL_in_r27 : GoodIn lw_tbl wsL_law_r27 := goodIn_r _ [760, 71, 761, 474, 475, 476, 477, 763, 764, 765, 766, 767, 478, 479, 480, 481, 768, 769, 770, 771, 482, 483, 484, 485] (by decide +kernel) (by decide +kernel)
set_option maxRecDepth 20000 in
theorem wsL_in_r28 : GoodIn lw_tbl wsL_law_r28 := goodIn_r _ [565, 566, 567, 568, 486, 487, 488, 489, 772, 773, 774, 775, 490, 491, 492, 493, 776, 777, 778, 779] (by decide +kernel) (by decide +kernel)
set_option maxRecDepth 20000 in
theorem wsL_in_wsX40 : GoodIn lw_tbl wsX40 := goodIn_r _ [116, 118, 120, 122, 124, 126, 128, 130] (by decide +kernel) (by decide +kernel)
set_option maxRecDepth 20000 in
theorem wsL_in_wsX50 : GoodIn lw_tbl wsX50 := goodIn_r _ [508, 510, 512, 514, 516, 518, 520, 522] (by decide +kernel) (by decide +kernel)
set_option maxRecDepth 20000 in
theorem wsL_in_wsX00 : GoodIn lw_tbl wsX00 := goodIn_r _ [94] (by decide +kernel) (by decide +kernel)
set_option maxRecDepth 20000 in
theorem wsL_in_wsX20 : GoodIn lw_tbl wsX20 := goodIn_r _ [105] (by decide +kernel) (by decide +kernel)
theorem wsL_law_good : GoodIn lw_tbl wsL_law := goodIn_app (goodIn_app (goodIn_app (goodIn_app (goodIn_app (goodIn_app wsL_in_r1 (goodIn_app wsL_in_r2 (goodIn_app wsL_in_r3 (goodIn_app wsL_in_r4 (goodIn_app wsL_in_r5 (goodIn_app wsL_in_r6 (goodIn_app wsL_in_r7 (goodIn_app wsL_in_r8 (goodIn_app wsL_in_r9 (goodIn_app wsL_in_r10 (goodIn_app wsL_in_r11 (goodIn_app wsL_in_r12 (goodIn_app wsL_in_r13 (goodIn_app wsL_in_r14 (goodIn_app wsL_in_r15 (goodIn_app wsL_in_r16 (goodIn_app wsL_in_r17 (goodIn_app wsL_in_r18 (goodIn_app wsL_in_r19 (goodIn_app wsL_in_r20 (goodIn_app wsL_in_r21 (goodIn_app wsL_in_r22 (goodIn_app wsL_in_r23 (goodIn_app wsL_in_r24 (goodIn_app wsL_in_r25 (goodIn_app wsL_in_r26 (goodIn_app wsL_in_r27 (wsL_in_r28)))))))))))))))))))))))))))) wsL_in_wsX40) wsL_in_wsX50) wsL_in_wsX00) wsL_in_wsX20) (fun w h => by cases h)
theorem wsL_law_in : ∀ w ∈ wsL_law, w ∈ lw_tbl := fun w h => (wsL_law_good w h).1
theorem inlX0 : ∀ w ∈ wsX00, w ∈ wsL_law := fun _ h => List.mem_append_left _ (List.mem_append_left _ (List.mem_append_right _ h))
theorem inX0 : ∀ w ∈ wsX00, w ∈ lw_tbl := fun w h => wsL_law_in w (inlX0 w h)
theorem inX1 : ∀ w ∈ wsX10, w ∈ lw_tbl := by decide +kernel
theorem inlX2 : ∀ w ∈ wsX20, w ∈ wsL_law := fun _ h => List.mem_append_left _ (List.mem_append_right _ h)
theorem inX2 : ∀ w ∈ wsX20, w ∈ lw_tbl := fun w h => wsL_law_in w (inlX2 w h)
theorem inX3 : ∀ w ∈ wsX30, w ∈ lw_tbl := by decide +kernel
theorem inlX4 : ∀ w ∈ wsX40, w ∈ wsL_law := fun _ h => List.mem_append_left _ (List.mem_append_left _ (List.mem_append_left _ (List.mem_append_left _ (List.mem_append_right _ h))))
theorem inX4 : ∀ w ∈ wsX40, w ∈ lw_tbl := fun w h => wsL_law_in w (inlX4 w h)
theorem inlX5 : ∀ w ∈ wsX50, w ∈ wsL_law := fun _ h => List.mem_append_left _ (List.mem_append_left _ (List.mem_append_left _ (List.mem_append_right _ h)))
theorem inX5 : ∀ w ∈ wsX50, w ∈ lw_tbl := fun w h => wsL_law_in w (inlX5 w h)
theorem inJ6 : ∀ w ∈ wsJ60, w ∈ lw_tbl := by decide +kernel
