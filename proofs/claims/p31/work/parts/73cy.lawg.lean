/-! digest's words by chunks -/
set_option maxRecDepth 20000 in
theorem gdX6_digest_1 : GoodIn wsL_law (.code yX6_digest cX6_digest 5 (some .long) :: wsX6_digest_r1) := goodIn_r _ [114, 115, 116, 20, 117, 24, 118, 35, 16, 119, 120, 121, 122, 123, 124, 2, 125, 34, 28, 32, 126, 127, 128, 27, 129] (by decide +kernel) (by decide +kernel)
set_option maxRecDepth 20000 in
theorem gdX6_digest_2 : GoodIn wsL_law wsX6_digest_r2 := goodIn_r _ [130, 131, 132, 133, 134, 135, 136, 137, 138, 139, 140, 141, 142, 83, 143, 84, 144, 145, 15, 146, 147, 148, 149, 150] (by decide +kernel) (by decide +kernel)
set_option maxRecDepth 20000 in
theorem gdX6_digest_3 : GoodIn wsL_law wsX6_digest_r3 := goodIn_r _ [59, 42, 43, 151, 152, 153, 154, 47, 46, 155, 156, 157, 158, 159, 160, 161, 162, 48, 163, 164, 165, 166, 167, 168] (by decide +kernel) (by decide +kernel)
set_option maxRecDepth 20000 in
theorem gdX6_digest_4 : GoodIn wsL_law wsX6_digest_r4 := goodIn_r _ [169, 170, 89, 171, 172, 85, 88, 173, 174, 175, 176, 177, 178, 179, 180, 181, 182, 183, 184, 185, 186, 187, 188, 189] (by decide +kernel) (by decide +kernel)
set_option maxRecDepth 20000 in
theorem gdX6_digest_5 : GoodIn wsL_law wsX6_digest_r5 := goodIn_r _ [190, 191, 192, 86, 87, 193, 194, 195, 91, 196, 197, 198, 199, 45, 200, 201, 202, 203, 204, 205, 206, 207, 31, 208] (by decide +kernel) (by decide +kernel)
set_option maxRecDepth 20000 in
theorem gdX6_digest_6 : GoodIn wsL_law wsX6_digest_r6 := goodIn_r _ [209, 210, 211, 101, 102, 96, 97, 98, 103, 99, 100, 212, 213, 214, 215, 216, 217, 218, 219, 220, 104, 221, 222, 223] (by decide +kernel) (by decide +kernel)
set_option maxRecDepth 20000 in
theorem gdX6_digest_7 : GoodIn wsL_law wsX6_digest_r7 := goodIn_r _ [224, 225, 226, 227, 228, 229, 230, 231, 232, 233, 234, 49, 235, 236, 237, 238, 239, 240, 50, 241, 242, 243, 244, 245] (by decide +kernel) (by decide +kernel)
set_option maxRecDepth 20000 in
theorem gdX6_digest_8 : GoodIn wsL_law wsX6_digest_r8 := goodIn_r _ [246, 247, 248, 249, 250, 251, 252, 253, 254, 255, 256, 257, 258, 259, 260, 261, 262, 263, 40, 264, 265, 266, 267, 268] (by decide +kernel) (by decide +kernel)
set_option maxRecDepth 20000 in
theorem gdX6_digest_9 : GoodIn wsL_law wsX6_digest_r9 := goodIn_r _ [269, 270, 271, 272, 273, 274, 275, 276, 277, 278, 279, 280, 281, 282, 283, 284, 285, 286, 287, 288, 289, 290, 291, 292] (by decide +kernel) (by decide +kernel)
set_option maxRecDepth 20000 in
theorem gdX6_digest_10 : GoodIn wsL_law wsX6_digest_r10 := goodIn_r _ [293, 294, 295, 296, 297, 298, 299, 300, 301, 302, 303, 304, 305, 306, 307, 308, 309, 310, 311, 312, 313, 314, 315, 316] (by decide +kernel) (by decide +kernel)
set_option maxRecDepth 20000 in
theorem gdX6_digest_11 : GoodIn wsL_law wsX6_digest_r11 := goodIn_r _ [317, 318, 319, 320, 321, 322, 323] (by decide +kernel) (by decide +kernel)
theorem ggL_law_X6_digest : GoodIn wsL_law wsX6_digest := goodIn_ca (goodIn_ca (goodIn_ca (goodIn_ca (goodIn_ca (goodIn_ca (goodIn_ca gdX6_digest_1 (goodIn_app gdX6_digest_2 (goodIn_app gdX6_digest_3 (goodIn_app gdX6_digest_4 (goodIn_app gdX6_digest_5 (goodIn_app gdX6_digest_6 (goodIn_app gdX6_digest_7 (goodIn_app gdX6_digest_8 (goodIn_app gdX6_digest_9 (goodIn_app gdX6_digest_10 (gdX6_digest_11))))))))))) (goodIn_sub inlX6 (by decide +kernel))) (goodIn_sub inlX2 (by decide +kernel))) (goodIn_sub inlX5 (by decide +kernel))) (goodIn_sub inlX4 (by decide +kernel))) (goodIn_sub inlX1 (by decide +kernel))) (goodIn_sub inlX3 (by decide +kernel))
set_option maxRecDepth 20000 in
theorem gL_law_X6_digest : GoodIn wsL_law (wsV RL 124 RX6 yX6_digest wsX6_digest) := goodIn_app (goodIn_of _ (by decide +kernel)) ggL_law_X6_digest
