set_option maxRecDepth 20000 in
theorem ggL_law_X3_cost : GoodIn wsL_law wsX3_cost := goodIn_r _ [456, 58, 300, 59, 60, 457, 372, 373, 374, 5, 375, 116, 117, 118, 119, 251, 252, 253, 254, 69, 255, 256, 257, 258, 259, 61, 70, 62, 71, 72, 74, 260, 261, 262, 263, 264, 265, 266, 267, 246, 268, 269, 270, 271, 272, 273, 274, 275, 276, 277, 278, 279, 280, 281, 282, 283, 64, 63, 73, 284, 285, 286, 287, 288, 289, 290, 291, 292, 293, 294, 295, 296, 297, 298, 299, 75, 76, 301, 302, 412, 413, 414, 415, 499, 500, 501, 502, 503, 504, 505, 506, 507, 508, 509, 510, 511, 512, 513, 514, 515, 516, 517, 518, 519, 520, 521] rfl (by decide +kernel)
set_option maxRecDepth 20000 in
theorem gL_law_X3_cost : GoodIn wsL_law (wsV RL 69 RX3 yX3_cost wsX3_cost) := goodIn_app (goodIn_of _ (by decide +kernel)) ggL_law_X3_cost
set_option maxRecDepth 20000 in
theorem ggL_law_X2_field : GoodIn wsL_law wsX2_field := goodIn_r _ [461, 15, 462, 463, 451, 82, 324, 311, 312, 313, 2, 314, 134, 89, 90, 91, 241, 106, 107, 496, 497, 498, 522, 523, 524, 525, 526, 527, 528, 529, 530, 531, 532, 533, 534, 535] rfl (by decide +kernel)
set_option maxRecDepth 20000 in
theorem gL_law_X2_field : GoodIn wsL_law (wsV RL 70 RX2 yX2_field wsX2_field) := goodIn_app (goodIn_of _ (by decide +kernel)) ggL_law_X2_field
set_option maxRecDepth 20000 in
theorem ggL_law_X3_field : GoodIn wsL_law wsX3_field := goodIn_r _ [467, 59, 65, 66, 67, 68, 264, 265, 266, 5, 267, 246, 117, 118, 119, 499, 500, 501, 502, 503, 504, 505, 506, 507, 508, 509, 510, 511, 512, 513, 514, 515, 516, 517, 518, 519, 520, 521] rfl (by decide +kernel)
set_option maxRecDepth 20000 in
theorem gL_law_X3_field : GoodIn wsL_law (wsV RL 73 RX3 yX3_field wsX3_field) := goodIn_app (goodIn_of _ (by decide +kernel)) ggL_law_X3_field
set_option maxRecDepth 20000 in
theorem ggL_law_X2_differ : GoodIn wsL_law wsX2_differ := goodIn_r _ [471, 19, 20, 363, 364, 365, 2, 366, 15, 143, 89, 90, 91, 149, 150, 151, 18, 152, 41, 153, 53, 154, 155, 156, 106, 107, 157, 158, 159, 160, 161, 162, 163, 164, 165, 166, 167, 168, 169, 170, 171, 42, 43, 44, 47, 172, 173, 174, 175, 176, 177, 178, 46, 179, 180, 181, 182, 183, 184, 185, 186, 187, 188, 189, 190, 191, 192, 193, 194, 195, 196, 197, 198, 199, 200, 201, 202, 49, 203, 204, 205, 206, 52, 207, 208, 209, 14, 210, 211, 212, 213, 214, 26, 25, 27, 29, 215, 216, 217, 218, 50, 51, 219, 220, 221, 222, 223, 224, 225, 226, 227, 228, 229, 230, 231, 232, 472, 473, 474, 475, 441, 381, 382, 383, 496, 497, 498, 522, 523, 524, 525, 526, 527, 528, 529, 530, 531, 532, 533, 534, 535, 536, 537, 538, 539, 540, 541, 542, 543, 544, 545, 546, 547] rfl (by decide +kernel)
set_option maxRecDepth 20000 in
theorem gL_law_X2_differ : GoodIn wsL_law (wsV RL 74 RX2 yX2_differ wsX2_differ) := goodIn_app (goodIn_of _ (by decide +kernel)) ggL_law_X2_differ
set_option maxRecDepth 20000 in
theorem ggL_law_X3_differ : GoodIn wsL_law wsX3_differ := goodIn_r _ [479, 246, 77, 69, 372, 373, 374, 5, 375, 116, 117, 118, 119, 251, 252, 253, 254, 255, 58, 59, 256, 257, 258, 259, 60, 61, 70, 62, 71, 72, 74, 260, 261, 262, 263, 264, 265, 266, 267, 268, 269, 270, 271, 272, 273, 274, 275, 276, 277, 278, 279, 280, 281, 282, 283, 64, 63, 73, 284, 285, 286, 287, 288, 289, 290, 291, 292, 293, 294, 295, 296, 297, 298, 299, 75, 76, 300, 301, 302, 388, 389, 390, 391, 499, 500, 501, 502, 503, 504, 505, 506, 507, 508, 509, 510, 511, 512, 513, 514, 515, 516, 517, 518, 519, 520, 521] rfl (by decide +kernel)
set_option maxRecDepth 20000 in
theorem gL_law_X3_differ : GoodIn wsL_law (wsV RL 77 RX3 yX3_differ wsX3_differ) := goodIn_app (goodIn_of _ (by decide +kernel)) ggL_law_X3_differ
set_option maxRecDepth 20000 in
theorem ggL_law_X2_entry : GoodIn wsL_law wsX2_entry := goodIn_r _ [483, 15, 143, 450, 451, 82, 89, 90, 2, 91, 241, 106, 107, 237, 238, 239, 240, 142, 496, 497, 498, 522, 523, 524, 525, 526, 527, 528, 529, 530, 531, 532, 533, 534, 535] rfl (by decide +kernel)
set_option maxRecDepth 20000 in
theorem gL_law_X2_entry : GoodIn wsL_law (wsV RL 78 RX2 yX2_entry wsX2_entry) := goodIn_app (goodIn_of _ (by decide +kernel)) ggL_law_X2_entry
set_option maxRecDepth 20000 in
theorem ggL_law_X3_entry : GoodIn wsL_law wsX3_entry := goodIn_r _ [487, 116, 58, 59, 60, 64, 117, 118, 5, 119, 499, 500, 501, 502, 503, 504, 505, 506, 507, 508, 509, 510, 511, 512, 513, 514, 515, 516, 517, 518, 519, 520, 521] rfl (by decide +kernel)
set_option maxRecDepth 20000 in
theorem gL_law_X3_entry : GoodIn wsL_law (wsV RL 81 RX3 yX3_entry wsX3_entry) := goodIn_app (goodIn_of _ (by decide +kernel)) ggL_law_X3_entry
set_option maxRecDepth 20000 in
theorem ggL_law_X2_count : GoodIn wsL_law wsX2_count := goodIn_r _ [491, 15, 143, 134, 496, 497, 498, 522, 523, 524, 525, 526, 527, 528, 529, 530, 531, 532, 533, 534, 535] rfl (by decide +kernel)
set_option maxRecDepth 20000 in
theorem gL_law_X2_count : GoodIn wsL_law (wsV RL 82 RX2 yX2_count wsX2_count) := goodIn_app (goodIn_of _ (by decide +kernel)) ggL_law_X2_count
set_option maxRecDepth 20000 in
theorem ggL_law_X3_count : GoodIn wsL_law wsX3_count := goodIn_r _ [495, 116, 246, 499, 500, 501, 502, 503, 504, 505, 506, 507, 508, 509, 510, 511, 512, 513, 514, 515, 516, 517, 518, 519, 520, 521] rfl (by decide +kernel)
set_option maxRecDepth 20000 in
theorem gL_law_X3_count : GoodIn wsL_law (wsV RL 86 RX3 yX3_count wsX3_count) := goodIn_app (goodIn_of _ (by decide +kernel)) ggL_law_X3_count
