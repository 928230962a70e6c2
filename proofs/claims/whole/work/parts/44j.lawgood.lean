set_option maxRecDepth 20000 in
theorem ggL_law_X2_clear : GoodIn wsL_law wsX2_clear := goodIn_r _ [384, 16, 87, 88, 89, 15, 90, 32, 91, 92, 93, 20, 94, 44, 385, 386, 387, 388, 33, 389, 390, 391, 392, 763, 764, 765, 766, 767, 768, 769, 770, 787, 788, 789, 790] (by decide +kernel) (by decide +kernel)
set_option maxRecDepth 20000 in
theorem gL_law_X2_clear : GoodIn wsL_law (wsV RL 150 RX2 yX2_clear wsX2_clear) := goodIn_app (goodIn_of _ (by decide +kernel)) ggL_law_X2_clear
set_option maxRecDepth 20000 in
theorem ggL_law_X3_clear : GoodIn wsL_law wsX3_clear := goodIn_r _ [396, 143, 131, 771, 772, 773, 774, 775, 776, 777, 778, 779, 780, 781, 782, 783, 784, 785, 786] (by decide +kernel) (by decide +kernel)
set_option maxRecDepth 20000 in
theorem gL_law_X3_clear : GoodIn wsL_law (wsV RL 153 RX3 yX3_clear wsX3_clear) := goodIn_app (goodIn_of _ (by decide +kernel)) ggL_law_X3_clear
set_option maxRecDepth 20000 in
theorem ggL_law_X2_sumOfKeys : GoodIn wsL_law wsX2_sumOfKeys := goodIn_r _ [400, 16, 87, 88, 89, 15, 90, 32, 91, 92, 93, 20, 94, 44, 364, 365, 366, 367, 107, 108, 109, 110, 43, 111, 112, 113, 114, 763, 764, 765, 766, 767, 768, 769, 770, 787, 788, 789, 790] (by decide +kernel) (by decide +kernel)
set_option maxRecDepth 20000 in
theorem gL_law_X2_sumOfKeys : GoodIn wsL_law (wsV RL 154 RX2 yX2_sumOfKeys wsX2_sumOfKeys) := goodIn_app (goodIn_of _ (by decide +kernel)) ggL_law_X2_sumOfKeys
set_option maxRecDepth 20000 in
theorem ggL_law_X3_sumOfKeys : GoodIn wsL_law wsX3_sumOfKeys := goodIn_r _ [404, 143, 131, 50, 771, 772, 773, 774, 775, 776, 777, 778, 779, 780, 781, 782, 783, 784, 785, 786] (by decide +kernel) (by decide +kernel)
set_option maxRecDepth 20000 in
theorem gL_law_X3_sumOfKeys : GoodIn wsL_law (wsV RL 158 RX3 yX3_sumOfKeys wsX3_sumOfKeys) := goodIn_app (goodIn_of _ (by decide +kernel)) ggL_law_X3_sumOfKeys
set_option maxRecDepth 20000 in
theorem ggL_law_X2_sumOfValues : GoodIn wsL_law wsX2_sumOfValues := goodIn_r _ [408, 16, 87, 88, 89, 15, 90, 32, 91, 92, 93, 20, 94, 44, 103, 104, 105, 106, 33, 107, 108, 109, 110, 43, 111, 112, 113, 114, 763, 764, 765, 766, 767, 768, 769, 770, 787, 788, 789, 790] (by decide +kernel) (by decide +kernel)
set_option maxRecDepth 20000 in
theorem gL_law_X2_sumOfValues : GoodIn wsL_law (wsV RL 159 RX2 yX2_sumOfValues wsX2_sumOfValues) := goodIn_app (goodIn_of _ (by decide +kernel)) ggL_law_X2_sumOfValues
set_option maxRecDepth 20000 in
theorem ggL_law_X3_sumOfValues : GoodIn wsL_law wsX3_sumOfValues := goodIn_r _ [412, 143, 131, 51, 771, 772, 773, 774, 775, 776, 777, 778, 779, 780, 781, 782, 783, 784, 785, 786] (by decide +kernel) (by decide +kernel)
set_option maxRecDepth 20000 in
theorem gL_law_X3_sumOfValues : GoodIn wsL_law (wsV RL 162 RX3 yX3_sumOfValues wsX3_sumOfValues) := goodIn_app (goodIn_of _ (by decide +kernel)) ggL_law_X3_sumOfValues
set_option maxRecDepth 20000 in
theorem ggL_law_X2_sum : GoodIn wsL_law wsX2_sum := goodIn_r _ [416, 16, 417, 418, 87, 88, 89, 15, 90, 32, 91, 92, 93, 20, 94, 44, 364, 365, 366, 367, 107, 108, 109, 110, 43, 111, 112, 113, 114, 103, 104, 105, 106, 33, 763, 764, 765, 766, 767, 768, 769, 770, 787, 788, 789, 790] (by decide +kernel) (by decide +kernel)
set_option maxRecDepth 20000 in
theorem gL_law_X2_sum : GoodIn wsL_law (wsV RL 163 RX2 yX2_sum wsX2_sum) := goodIn_app (goodIn_of _ (by decide +kernel)) ggL_law_X2_sum
set_option maxRecDepth 20000 in
theorem ggL_law_X3_sum : GoodIn wsL_law wsX3_sum := goodIn_r _ [422, 143, 131, 423, 50, 51, 424, 771, 772, 773, 774, 775, 776, 777, 778, 779, 780, 781, 782, 783, 784, 785, 786] (by decide +kernel) (by decide +kernel)
set_option maxRecDepth 20000 in
theorem gL_law_X3_sum : GoodIn wsL_law (wsV RL 166 RX3 yX3_sum wsX3_sum) := goodIn_app (goodIn_of _ (by decide +kernel)) ggL_law_X3_sum
set_option maxRecDepth 20000 in
theorem ggL_law_L_count : GoodIn wsL_law wsL_count := goodIn_ca (goodIn_ca (goodIn_r _ [427, 307, 63, 428, 429, 430, 2, 431, 85, 86, 17, 432, 433, 434, 312, 313, 69, 70, 71, 15, 72, 32, 73, 74, 75, 20, 76, 44, 43, 87, 88, 89, 90, 91, 92, 93, 94, 185, 186, 187, 188, 33, 107, 108, 109, 110, 111, 112, 113, 114, 321, 322, 323, 324, 325, 96, 97, 98, 99, 100, 101, 102, 119, 120, 121, 122, 763, 764, 765, 766, 767, 768, 769, 770, 787, 788, 789, 790] (by decide +kernel) (by decide +kernel)) (goodIn_sub (fun _ h => List.mem_append_left _ (List.mem_append_left _ (List.mem_append_left _ (List.mem_append_right _ h)))) (by decide +kernel))) (goodIn_sub (fun _ h => List.mem_append_left _ (List.mem_append_left _ (List.mem_append_right _ h))) (by decide +kernel))
set_option maxRecDepth 20000 in
theorem gL_law_L_count : GoodIn wsL_law (va_wsS RL 167 yL_count wsL_count) := goodIn_app (goodIn_of _ (by decide +kernel)) ggL_law_L_count
set_option maxRecDepth 20000 in
theorem ggL_law_X3_count : GoodIn wsL_law wsX3_count := goodIn_r _ [438, 52, 439, 53, 136, 137, 5, 138, 330, 331, 332, 139, 140, 141, 142, 143, 771, 772, 773, 774, 775, 776, 777, 778, 779, 780, 781, 782, 783, 784, 785, 786] (by decide +kernel) (by decide +kernel)
set_option maxRecDepth 20000 in
theorem gL_law_X3_count : GoodIn wsL_law (wsV RL 169 RX3 yX3_count wsX3_count) := goodIn_app (goodIn_of _ (by decide +kernel)) ggL_law_X3_count
set_option maxRecDepth 20000 in
theorem ggL_law_L_times : GoodIn wsL_law wsL_times := goodIn_ca (goodIn_r _ [442, 307, 443, 444, 445, 2, 446, 17, 432, 433, 434, 312, 313, 69, 70, 71, 15, 72, 32, 73, 74, 75, 20, 76, 44, 43, 185, 186, 187, 188, 33, 107, 108, 109, 110, 111, 112, 113, 114, 763, 764, 765, 766, 767, 768, 769, 770, 787, 788, 789, 790] (by decide +kernel) (by decide +kernel)) (goodIn_sub (fun _ h => List.mem_append_left _ (List.mem_append_left _ (List.mem_append_right _ h))) (by decide +kernel))
set_option maxRecDepth 20000 in
theorem gL_law_L_times : GoodIn wsL_law (va_wsS RL 170 yL_times wsL_times) := goodIn_app (goodIn_of _ (by decide +kernel)) ggL_law_L_times
set_option maxRecDepth 20000 in
theorem ggL_law_X3_times : GoodIn wsL_law wsX3_times := goodIn_r _ [450, 330, 331, 5, 332, 139, 140, 141, 142, 143, 451, 452, 453, 454, 52, 439, 53, 136, 137, 138, 771, 772, 773, 774, 775, 776, 777, 778, 779, 780, 781, 782, 783, 784, 785, 786] (by decide +kernel) (by decide +kernel)
set_option maxRecDepth 20000 in
theorem gL_law_X3_times : GoodIn wsL_law (wsV RL 172 RX3 yX3_times wsX3_times) := goodIn_app (goodIn_of _ (by decide +kernel)) ggL_law_X3_times
set_option maxRecDepth 20000 in
theorem ggL_law_L_forget : GoodIn wsL_law wsL_forget := goodIn_ca (goodIn_r _ [457, 307, 458, 459, 460, 2, 461, 17, 432, 433, 434, 312, 313, 69, 70, 71, 15, 72, 32, 73, 74, 75, 20, 76, 44, 43, 185, 186, 187, 188, 33, 107, 108, 109, 110, 111, 112, 113, 114, 213, 214, 215, 216, 217, 218, 219, 220, 221, 222, 223, 224, 763, 764, 765, 766, 767, 768, 769, 770, 787, 788, 789, 790] (by decide +kernel) (by decide +kernel)) (goodIn_sub (fun _ h => List.mem_append_left _ (List.mem_append_left _ (List.mem_append_right _ h))) (by decide +kernel))
set_option maxRecDepth 20000 in
theorem gL_law_L_forget : GoodIn wsL_law (va_wsS RL 173 yL_forget wsL_forget) := goodIn_app (goodIn_of _ (by decide +kernel)) ggL_law_L_forget
