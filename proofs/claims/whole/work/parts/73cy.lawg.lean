set_option maxRecDepth 20000 in
theorem gdX6_digest_1 : GoodIn wsL_law (.code yX6_digest cX6_digest 5 (some .long) :: wsX6_digest_r1) := goodIn_r _ [1149, 1150, 1151, 20, 1137, 24, 937, 35, 16, 577, 829, 802, 573, 574, 575, 2, 576, 34, 28, 32, 578, 579, 580, 27, 581] (by decide +kernel) (by decide +kernel)
set_option maxRecDepth 20000 in
theorem gdX6_digest_2 : GoodIn wsL_law wsX6_digest_r2 := goodIn_r _ [582, 583, 584, 585, 586, 587, 588, 158, 159, 160, 589, 366, 367, 83, 590, 84, 591, 211, 15, 212, 592, 524, 525, 526] (by decide +kernel) (by decide +kernel)
set_option maxRecDepth 20000 in
theorem gdX6_digest_3 : GoodIn wsL_law wsX6_digest_r3 := goodIn_r _ [59, 42, 43, 368, 369, 370, 371, 47, 46, 372, 373, 374, 375, 376, 377, 378, 379, 48, 380, 381, 382, 383, 593, 594] (by decide +kernel) (by decide +kernel)
set_option maxRecDepth 20000 in
theorem gdX6_digest_4 : GoodIn wsL_law wsX6_digest_r4 := goodIn_r _ [595, 596, 89, 597, 598, 85, 88, 599, 528, 529, 530, 531, 532, 533, 534, 535, 536, 537, 538, 539, 600, 601, 602, 603] (by decide +kernel) (by decide +kernel)
set_option maxRecDepth 20000 in
theorem gdX6_digest_5 : GoodIn wsL_law wsX6_digest_r5 := goodIn_r _ [604, 605, 606, 86, 87, 607, 608, 609, 91, 610, 611, 612, 613, 45, 210, 614, 615, 616, 617, 618, 619, 620, 31, 621] (by decide +kernel) (by decide +kernel)
set_option maxRecDepth 20000 in
theorem gdX6_digest_6 : GoodIn wsL_law wsX6_digest_r6 := goodIn_r _ [622, 623, 624, 101, 102, 96, 97, 98, 103, 99, 100, 625, 626, 627, 628, 629, 630, 631, 632, 633, 104, 634, 635, 636] (by decide +kernel) (by decide +kernel)
set_option maxRecDepth 20000 in
theorem gdX6_digest_7 : GoodIn wsL_law wsX6_digest_r7 := goodIn_r _ [637, 638, 639, 640, 641, 642, 643, 644, 645, 646, 647, 49, 648, 649, 650, 651, 652, 653, 50, 654, 655, 656, 657, 658] (by decide +kernel) (by decide +kernel)
set_option maxRecDepth 20000 in
theorem gdX6_digest_8 : GoodIn wsL_law wsX6_digest_r8 := goodIn_r _ [659, 660, 825, 826, 827, 828, 830, 831, 832, 833, 353, 354, 355, 356, 357, 358, 359, 360, 40, 361, 362, 363, 364, 157] (by decide +kernel) (by decide +kernel)
set_option maxRecDepth 20000 in
theorem gdX6_digest_9 : GoodIn wsL_law wsX6_digest_r9 := goodIn_r _ [365, 834, 835, 836, 837, 671, 838, 839, 840, 841, 754, 755, 756, 757, 751, 758, 750, 842, 843, 844, 845, 846, 847, 848] (by decide +kernel) (by decide +kernel)
set_option maxRecDepth 20000 in
theorem gdX6_digest_10 : GoodIn wsL_law wsX6_digest_r10 := goodIn_r _ [849, 672, 1152, 1153, 1154, 1155, 665, 661, 662, 663, 664, 666, 667, 668, 669, 670, 673, 519, 520, 521, 522, 523, 527, 744] (by decide +kernel) (by decide +kernel)
set_option maxRecDepth 20000 in
theorem gdX6_digest_11 : GoodIn wsL_law wsX6_digest_r11 := goodIn_r _ [745, 746, 747, 748, 749, 752, 753] (by decide +kernel) (by decide +kernel)
theorem ggL_law_X6_digest : GoodIn wsL_law wsX6_digest := goodIn_ca (goodIn_ca (goodIn_ca (goodIn_ca (goodIn_ca (goodIn_ca (goodIn_ca gdX6_digest_1 (goodIn_app gdX6_digest_2 (goodIn_app gdX6_digest_3 (goodIn_app gdX6_digest_4 (goodIn_app gdX6_digest_5 (goodIn_app gdX6_digest_6 (goodIn_app gdX6_digest_7 (goodIn_app gdX6_digest_8 (goodIn_app gdX6_digest_9 (goodIn_app gdX6_digest_10 (gdX6_digest_11))))))))))) (goodIn_sub inlX6 (by decide +kernel))) (goodIn_sub inlX2 (by decide +kernel))) (goodIn_sub inlX5 (by decide +kernel))) (goodIn_sub inlX4 (by decide +kernel))) (goodIn_sub inlX1 (by decide +kernel))) (goodIn_sub inlX3 (by decide +kernel))
theorem gL_law_X6_digest : GoodIn wsL_law (wsV RL 184 RX6 yX6_digest wsX6_digest) := goodIn_app (goodIn_of _ (by decide +kernel)) ggL_law_X6_digest
set_option maxRecDepth 20000 in
theorem gdX7_digest_1 : GoodIn wsL_law (.code yX7_digest cX7_digest 2 (some .long) :: wsX7_digest_r1) := goodIn_r _ [1159, 173, 1160, 1161, 182, 946, 1071, 109, 678, 679, 680, 5, 681, 113, 452, 114, 112, 682, 683, 258, 259, 260, 261, 684, 685] (by decide +kernel) (by decide +kernel)
set_option maxRecDepth 20000 in
theorem gdX7_digest_2 : GoodIn wsL_law wsX7_digest_r2 := goodIn_r _ [686, 687, 688, 689, 690, 691, 692, 406, 407, 408, 409, 410, 411, 412, 413, 270, 271, 272, 266, 267, 268, 269, 414, 415] (by decide +kernel) (by decide +kernel)
set_option maxRecDepth 20000 in
theorem gdX7_digest_3 : GoodIn wsL_law wsX7_digest_r3 := goodIn_r _ [416, 417, 418, 419, 420, 421, 422, 423, 693, 694, 695, 696, 697, 698, 699, 700, 701, 555, 556, 557, 548, 549, 550, 551] (by decide +kernel) (by decide +kernel)
set_option maxRecDepth 20000 in
theorem gdX7_digest_4 : GoodIn wsL_law wsX7_digest_r4 := goodIn_r _ [552, 553, 554, 326, 558, 559, 560, 561, 562, 563, 564, 565, 702, 703, 704, 705, 706, 707, 708, 709, 710, 711, 712, 1162] (by decide +kernel) (by decide +kernel)
set_option maxRecDepth 20000 in
theorem gdX7_digest_5 : GoodIn wsL_law wsX7_digest_r5 := goodIn_r _ [1163, 1164, 1165, 1166, 854, 855, 856, 857, 398, 399, 400, 401, 402, 403, 404, 405, 858, 859, 860, 861, 767, 768, 769, 770] (by decide +kernel) (by decide +kernel)
set_option maxRecDepth 20000 in
theorem gdX7_digest_6 : GoodIn wsL_law wsX7_digest_r6 := goodIn_r _ [862, 863, 864, 865, 733, 734, 735, 736, 729, 730, 731, 732, 725, 726, 727, 728, 717, 718, 719, 720, 721, 722, 723, 724] (by decide +kernel) (by decide +kernel)
set_option maxRecDepth 20000 in
theorem gdX7_digest_7 : GoodIn wsL_law wsX7_digest_r7 := goodIn_r _ [1167, 1168, 1169, 1170, 713, 714, 715, 716, 544, 545, 546, 547, 763, 764, 765, 766] (by decide +kernel) (by decide +kernel)
theorem ggL_law_X7_digest : GoodIn wsL_law wsX7_digest := goodIn_ca (goodIn_ca gdX7_digest_1 (goodIn_app gdX7_digest_2 (goodIn_app gdX7_digest_3 (goodIn_app gdX7_digest_4 (goodIn_app gdX7_digest_5 (goodIn_app gdX7_digest_6 (gdX7_digest_7))))))) (goodIn_sub inlX7 (by decide +kernel))
theorem gL_law_X7_digest : GoodIn wsL_law (wsV RL 188 RX7 yX7_digest wsX7_digest) := goodIn_app (goodIn_of _ (by decide +kernel)) ggL_law_X7_digest
