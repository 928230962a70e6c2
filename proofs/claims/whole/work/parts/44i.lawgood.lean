set_option maxRecDepth 20000 in
theorem ggL_law_X3_computeIfAbsent : GoodIn wsL_law wsX3_computeIfAbsent := goodIn_r _ [295, 127, 128, 129, 5, 130, 131, 132, 133, 134, 135, 50, 136, 137, 138, 139, 140, 141, 142, 143, 149, 150, 151, 152, 51, 144, 145, 146, 147, 148, 771, 772, 773, 774, 775, 776, 777, 778, 779, 780, 781, 782, 783, 784, 785, 786] (by decide +kernel) (by decide +kernel)
set_option maxRecDepth 20000 in
theorem gL_law_X3_computeIfAbsent : GoodIn wsL_law (wsV RL 125 RX3 yX3_computeIfAbsent wsX3_computeIfAbsent) := goodIn_app (goodIn_of _ (by decide +kernel)) ggL_law_X3_computeIfAbsent
set_option maxRecDepth 20000 in
theorem ggL_law_X2_computeIfPresent : GoodIn wsL_law wsX2_computeIfPresent := goodIn_r _ [299, 16, 68, 69, 70, 71, 15, 72, 32, 73, 74, 75, 20, 76, 44, 43, 103, 104, 105, 106, 33, 107, 108, 109, 110, 111, 112, 113, 114, 277, 278, 279, 2, 280, 213, 214, 215, 216, 217, 218, 219, 220, 221, 222, 223, 224, 115, 116, 117, 118, 119, 120, 121, 122, 763, 764, 765, 766, 767, 768, 769, 770, 787, 788, 789, 790] (by decide +kernel) (by decide +kernel)
set_option maxRecDepth 20000 in
theorem gL_law_X2_computeIfPresent : GoodIn wsL_law (wsV RL 126 RX2 yX2_computeIfPresent wsX2_computeIfPresent) := goodIn_app (goodIn_of _ (by decide +kernel)) ggL_law_X2_computeIfPresent
set_option maxRecDepth 20000 in
theorem ggL_law_X3_computeIfPresent : GoodIn wsL_law wsX3_computeIfPresent := goodIn_r _ [303, 143, 148, 51, 132, 133, 134, 5, 135, 50, 131, 136, 137, 138, 229, 230, 231, 232, 149, 150, 151, 152, 144, 145, 146, 147, 771, 772, 773, 774, 775, 776, 777, 778, 779, 780, 781, 782, 783, 784, 785, 786] (by decide +kernel) (by decide +kernel)
set_option maxRecDepth 20000 in
theorem gL_law_X3_computeIfPresent : GoodIn wsL_law (wsV RL 129 RX3 yX3_computeIfPresent wsX3_computeIfPresent) := goodIn_app (goodIn_of _ (by decide +kernel)) ggL_law_X3_computeIfPresent
set_option maxRecDepth 20000 in
theorem ggL_law_L_fill : GoodIn wsL_law wsL_fill := goodIn_ca (goodIn_ca (goodIn_r _ [306, 307, 63, 308, 309, 310, 2, 311, 312, 313, 16, 314, 315, 316, 317, 318, 319, 320, 245, 246, 247, 15, 248, 32, 249, 250, 251, 20, 252, 253, 74, 75, 76, 44, 43, 81, 82, 83, 84, 85, 86, 87, 88, 89, 90, 91, 92, 93, 94, 321, 322, 323, 324, 33, 73, 325, 96, 97, 98, 99, 100, 101, 102, 119, 120, 121, 122, 111, 112, 113, 114, 763, 764, 765, 766, 767, 768, 769, 770, 787, 788, 789, 790] (by decide +kernel) (by decide +kernel)) (goodIn_sub (fun _ h => List.mem_append_left _ (List.mem_append_left _ (List.mem_append_right _ h))) (by decide +kernel))) (goodIn_sub (fun _ h => List.mem_append_left _ (List.mem_append_left _ (List.mem_append_left _ (List.mem_append_right _ h)))) (by decide +kernel))
set_option maxRecDepth 20000 in
theorem gL_law_L_fill : GoodIn wsL_law (va_wsS RL 130 yL_fill wsL_fill) := goodIn_app (goodIn_of _ (by decide +kernel)) ggL_law_L_fill
set_option maxRecDepth 20000 in
theorem ggL_law_X3_fill : GoodIn wsL_law wsX3_fill := goodIn_r _ [329, 131, 330, 331, 5, 332, 333, 334, 335, 336, 132, 133, 134, 135, 50, 136, 137, 138, 139, 140, 141, 142, 143, 149, 150, 151, 152, 51, 771, 772, 773, 774, 775, 776, 777, 778, 779, 780, 781, 782, 783, 784, 785, 786] (by decide +kernel) (by decide +kernel)
set_option maxRecDepth 20000 in
theorem gL_law_X3_fill : GoodIn wsL_law (wsV RL 133 RX3 yX3_fill wsX3_fill) := goodIn_app (goodIn_of _ (by decide +kernel)) ggL_law_X3_fill
set_option maxRecDepth 20000 in
theorem ggL_law_X2_addToAll : GoodIn wsL_law wsX2_addToAll := goodIn_r _ [340, 16, 87, 88, 89, 15, 90, 32, 91, 92, 93, 20, 94, 44, 103, 104, 105, 106, 33, 107, 108, 109, 110, 43, 111, 112, 113, 114, 115, 116, 117, 118, 119, 120, 121, 122, 763, 764, 765, 766, 767, 768, 769, 770, 787, 788, 789, 790] (by decide +kernel) (by decide +kernel)
set_option maxRecDepth 20000 in
theorem gL_law_X2_addToAll : GoodIn wsL_law (wsV RL 134 RX2 yX2_addToAll wsX2_addToAll) := goodIn_app (goodIn_of _ (by decide +kernel)) ggL_law_X2_addToAll
set_option maxRecDepth 20000 in
theorem ggL_law_X3_addToAll : GoodIn wsL_law wsX3_addToAll := goodIn_r _ [344, 143, 131, 51, 771, 772, 773, 774, 775, 776, 777, 778, 779, 780, 781, 782, 783, 784, 785, 786] (by decide +kernel) (by decide +kernel)
set_option maxRecDepth 20000 in
theorem gL_law_X3_addToAll : GoodIn wsL_law (wsV RL 137 RX3 yX3_addToAll wsX3_addToAll) := goodIn_app (goodIn_of _ (by decide +kernel)) ggL_law_X3_addToAll
set_option maxRecDepth 20000 in
theorem ggL_law_X2_dropBelow : GoodIn wsL_law wsX2_dropBelow := goodIn_r _ [348, 16, 87, 88, 89, 15, 90, 32, 91, 92, 93, 20, 94, 44, 103, 104, 105, 106, 33, 107, 108, 109, 110, 43, 111, 112, 113, 114, 213, 214, 215, 216, 217, 218, 219, 220, 221, 222, 223, 224, 763, 764, 765, 766, 767, 768, 769, 770, 787, 788, 789, 790] (by decide +kernel) (by decide +kernel)
set_option maxRecDepth 20000 in
theorem gL_law_X2_dropBelow : GoodIn wsL_law (wsV RL 138 RX2 yX2_dropBelow wsX2_dropBelow) := goodIn_app (goodIn_of _ (by decide +kernel)) ggL_law_X2_dropBelow
set_option maxRecDepth 20000 in
theorem ggL_law_X3_dropBelow : GoodIn wsL_law wsX3_dropBelow := goodIn_r _ [352, 143, 131, 51, 229, 230, 231, 5, 232, 50, 771, 772, 773, 774, 775, 776, 777, 778, 779, 780, 781, 782, 783, 784, 785, 786] (by decide +kernel) (by decide +kernel)
set_option maxRecDepth 20000 in
theorem gL_law_X3_dropBelow : GoodIn wsL_law (wsV RL 141 RX3 yX3_dropBelow wsX3_dropBelow) := goodIn_app (goodIn_of _ (by decide +kernel)) ggL_law_X3_dropBelow
set_option maxRecDepth 20000 in
theorem ggL_law_L_putShelf : GoodIn wsL_law wsL_putShelf := goodIn_ca (goodIn_r _ [355, 63, 356, 357, 358, 2, 359, 22, 16, 360, 361, 362, 363, 87, 88, 89, 15, 90, 32, 91, 92, 93, 20, 94, 44, 364, 365, 366, 367, 107, 108, 109, 110, 43, 111, 112, 113, 114, 245, 246, 247, 248, 249, 250, 251, 252, 253, 74, 75, 76, 81, 82, 83, 84, 85, 86, 103, 104, 105, 106, 33, 321, 322, 323, 324, 73, 325, 96, 97, 98, 99, 100, 101, 102, 119, 120, 121, 122, 763, 764, 765, 766, 767, 768, 769, 770, 787, 788, 789, 790] (by decide +kernel) (by decide +kernel)) (goodIn_sub (fun _ h => List.mem_append_left _ (List.mem_append_left _ (List.mem_append_left _ (List.mem_append_right _ h)))) (by decide +kernel))
set_option maxRecDepth 20000 in
theorem gL_law_L_putShelf : GoodIn wsL_law (va_wsS RL 142 yL_putShelf wsL_putShelf) := goodIn_app (goodIn_of _ (by decide +kernel)) ggL_law_L_putShelf
set_option maxRecDepth 20000 in
theorem ggL_law_X3_putShelf : GoodIn wsL_law wsX3_putShelf := goodIn_r _ [371, 372, 55, 131, 56, 132, 133, 134, 5, 135, 50, 136, 137, 138, 139, 140, 141, 142, 143, 149, 150, 151, 152, 51, 771, 772, 773, 774, 775, 776, 777, 778, 779, 780, 781, 782, 783, 784, 785, 786] (by decide +kernel) (by decide +kernel)
set_option maxRecDepth 20000 in
theorem gL_law_X3_putShelf : GoodIn wsL_law (wsV RL 145 RX3 yX3_putShelf wsX3_putShelf) := goodIn_app (goodIn_of _ (by decide +kernel)) ggL_law_X3_putShelf
set_option maxRecDepth 20000 in
theorem ggL_law_X2_size : GoodIn wsL_law wsX2_size := goodIn_r _ [376, 16, 87, 88, 89, 15, 90, 32, 91, 92, 93, 20, 94, 44, 763, 764, 765, 766, 767, 768, 769, 770, 787, 788, 789, 790] (by decide +kernel) (by decide +kernel)
set_option maxRecDepth 20000 in
theorem gL_law_X2_size : GoodIn wsL_law (wsV RL 146 RX2 yX2_size wsX2_size) := goodIn_app (goodIn_of _ (by decide +kernel)) ggL_law_X2_size
set_option maxRecDepth 20000 in
theorem ggL_law_X3_size : GoodIn wsL_law wsX3_size := goodIn_r _ [380, 143, 131, 771, 772, 773, 774, 775, 776, 777, 778, 779, 780, 781, 782, 783, 784, 785, 786] (by decide +kernel) (by decide +kernel)
set_option maxRecDepth 20000 in
theorem gL_law_X3_size : GoodIn wsL_law (wsV RL 149 RX3 yX3_size wsX3_size) := goodIn_app (goodIn_of _ (by decide +kernel)) ggL_law_X3_size
