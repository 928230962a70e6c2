set_option maxRecDepth 20000 in
theorem ggL_law_X3_forget : GoodIn wsL_law wsX3_forget := goodIn_r _ [465, 52, 439, 53, 330, 331, 5, 332, 139, 140, 141, 142, 143, 451, 452, 453, 454, 136, 137, 138, 771, 772, 773, 774, 775, 776, 777, 778, 779, 780, 781, 782, 783, 784, 785, 786] (by decide +kernel) (by decide +kernel)
set_option maxRecDepth 20000 in
theorem gL_law_X3_forget : GoodIn wsL_law (wsV RL 175 RX3 yX3_forget wsX3_forget) := goodIn_app (goodIn_of _ (by decide +kernel)) ggL_law_X3_forget
set_option maxRecDepth 20000 in
theorem ggL_law_X2_words : GoodIn wsL_law wsX2_words := goodIn_r _ [469, 17, 87, 88, 89, 15, 90, 32, 91, 92, 93, 20, 94, 44, 763, 764, 765, 766, 767, 768, 769, 770, 787, 788, 789, 790] (by decide +kernel) (by decide +kernel)
set_option maxRecDepth 20000 in
theorem gL_law_X2_words : GoodIn wsL_law (wsV RL 176 RX2 yX2_words wsX2_words) := goodIn_app (goodIn_of _ (by decide +kernel)) ggL_law_X2_words
set_option maxRecDepth 20000 in
theorem ggL_law_X3_words : GoodIn wsL_law wsX3_words := goodIn_r _ [473, 143, 439, 771, 772, 773, 774, 775, 776, 777, 778, 779, 780, 781, 782, 783, 784, 785, 786] (by decide +kernel) (by decide +kernel)
set_option maxRecDepth 20000 in
theorem gL_law_X3_words : GoodIn wsL_law (wsV RL 179 RX3 yX3_words wsX3_words) := goodIn_app (goodIn_of _ (by decide +kernel)) ggL_law_X3_words
set_option maxRecDepth 20000 in
theorem ggL_law_L_mostOften : GoodIn wsL_law wsL_mostOften := goodIn_ca (goodIn_r _ [476, 477, 478, 479, 480, 2, 481, 482, 483, 17, 87, 88, 89, 15, 90, 32, 91, 92, 93, 20, 94, 44, 484, 485, 486, 487, 103, 104, 105, 106, 33, 107, 108, 109, 110, 43, 111, 112, 113, 114, 364, 365, 366, 367, 763, 764, 765, 766, 767, 768, 769, 770, 787, 788, 789, 790] (by decide +kernel) (by decide +kernel)) (goodIn_sub (fun _ h => List.mem_append_left _ (List.mem_append_right _ h)) (by decide +kernel))
set_option maxRecDepth 20000 in
theorem gL_law_L_mostOften : GoodIn wsL_law (va_wsS RL 180 yL_mostOften wsL_mostOften) := goodIn_app (goodIn_of _ (by decide +kernel)) ggL_law_L_mostOften
set_option maxRecDepth 20000 in
theorem ggL_law_X3_mostOften : GoodIn wsL_law wsX3_mostOften := goodIn_r _ [491, 439, 53, 52, 139, 140, 141, 5, 142, 143, 771, 772, 773, 774, 775, 776, 777, 778, 779, 780, 781, 782, 783, 784, 785, 786] (by decide +kernel) (by decide +kernel)
set_option maxRecDepth 20000 in
theorem gL_law_X3_mostOften : GoodIn wsL_law (wsV RL 182 RX3 yX3_mostOften wsX3_mostOften) := goodIn_app (goodIn_of _ (by decide +kernel)) ggL_law_X3_mostOften
set_option maxRecDepth 20000 in
theorem ggL_law_L_mark : GoodIn wsL_law wsL_mark := goodIn_ca (goodIn_r _ [494, 63, 495, 496, 497, 2, 498, 21, 499, 250, 251, 20, 252, 253, 74, 75, 76, 44, 43, 500, 501, 502, 503, 85, 86, 504, 92, 93, 94, 505, 100, 101, 102, 763, 764, 765, 766, 767, 768, 769, 770, 789, 790] (by decide +kernel) (by decide +kernel)) (goodIn_sub (fun _ h => List.mem_append_left _ (List.mem_append_left _ (List.mem_append_left _ (List.mem_append_right _ h)))) (by decide +kernel))
set_option maxRecDepth 20000 in
theorem gL_law_L_mark : GoodIn wsL_law (va_wsS RL 183 yL_mark wsL_mark) := goodIn_app (goodIn_of _ (by decide +kernel)) ggL_law_L_mark
set_option maxRecDepth 20000 in
theorem ggL_law_X3_mark : GoodIn wsL_law wsX3_mark := goodIn_r _ [509, 510, 511, 512, 513, 5, 514, 54, 136, 137, 138, 139, 140, 141, 142, 143, 515, 516, 517, 518, 771, 772, 773, 774, 775, 776, 777, 778, 779, 780, 781, 782, 783, 784, 785, 786] (by decide +kernel) (by decide +kernel)
set_option maxRecDepth 20000 in
theorem gL_law_X3_mark : GoodIn wsL_law (wsV RL 185 RX3 yX3_mark wsX3_mark) := goodIn_app (goodIn_of _ (by decide +kernel)) ggL_law_X3_mark
set_option maxRecDepth 20000 in
theorem ggL_law_X2_unmark : GoodIn wsL_law wsX2_unmark := goodIn_r _ [522, 21, 523, 74, 75, 20, 76, 44, 43, 524, 218, 219, 220, 221, 222, 223, 224, 111, 112, 113, 114, 763, 764, 765, 766, 767, 768, 769, 770, 789, 790] (by decide +kernel) (by decide +kernel)
set_option maxRecDepth 20000 in
theorem gL_law_X2_unmark : GoodIn wsL_law (wsV RL 186 RX2 yX2_unmark wsX2_unmark) := goodIn_app (goodIn_of _ (by decide +kernel)) ggL_law_X2_unmark
set_option maxRecDepth 20000 in
theorem ggL_law_X3_unmark : GoodIn wsL_law wsX3_unmark := goodIn_r _ [528, 143, 511, 512, 513, 5, 514, 54, 510, 136, 137, 138, 529, 530, 531, 532, 771, 772, 773, 774, 775, 776, 777, 778, 779, 780, 781, 782, 783, 784, 785, 786] (by decide +kernel) (by decide +kernel)
set_option maxRecDepth 20000 in
theorem gL_law_X3_unmark : GoodIn wsL_law (wsV RL 189 RX3 yX3_unmark wsX3_unmark) := goodIn_app (goodIn_of _ (by decide +kernel)) ggL_law_X3_unmark
set_option maxRecDepth 20000 in
theorem ggL_law_X2_isMarked : GoodIn wsL_law wsX2_isMarked := goodIn_r _ [536, 21, 499, 250, 251, 20, 252, 253, 74, 75, 76, 44, 43, 763, 764, 765, 766, 767, 768, 769, 770, 789, 790] (by decide +kernel) (by decide +kernel)
set_option maxRecDepth 20000 in
theorem gL_law_X2_isMarked : GoodIn wsL_law (wsV RL 190 RX2 yX2_isMarked wsX2_isMarked) := goodIn_app (goodIn_of _ (by decide +kernel)) ggL_law_X2_isMarked
set_option maxRecDepth 20000 in
theorem ggL_law_X3_isMarked : GoodIn wsL_law wsX3_isMarked := goodIn_r _ [540, 143, 511, 512, 513, 5, 514, 54, 510, 136, 137, 138, 771, 772, 773, 774, 775, 776, 777, 778, 779, 780, 781, 782, 783, 784, 785, 786] (by decide +kernel) (by decide +kernel)
set_option maxRecDepth 20000 in
theorem gL_law_X3_isMarked : GoodIn wsL_law (wsV RL 193 RX3 yX3_isMarked wsX3_isMarked) := goodIn_app (goodIn_of _ (by decide +kernel)) ggL_law_X3_isMarked
set_option maxRecDepth 20000 in
theorem ggL_law_X2_marked : GoodIn wsL_law wsX2_marked := goodIn_r _ [544, 21, 504, 92, 93, 20, 94, 44, 763, 764, 765, 766, 767, 768, 769, 770, 789, 790] (by decide +kernel) (by decide +kernel)
set_option maxRecDepth 20000 in
theorem gL_law_X2_marked : GoodIn wsL_law (wsV RL 194 RX2 yX2_marked wsX2_marked) := goodIn_app (goodIn_of _ (by decide +kernel)) ggL_law_X2_marked
set_option maxRecDepth 20000 in
theorem ggL_law_X3_marked : GoodIn wsL_law wsX3_marked := goodIn_r _ [548, 143, 510, 771, 772, 773, 774, 775, 776, 777, 778, 779, 780, 781, 782, 783, 784, 785, 786] (by decide +kernel) (by decide +kernel)
set_option maxRecDepth 20000 in
theorem gL_law_X3_marked : GoodIn wsL_law (wsV RL 197 RX3 yX3_marked wsX3_marked) := goodIn_app (goodIn_of _ (by decide +kernel)) ggL_law_X3_marked
