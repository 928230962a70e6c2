set_option maxRecDepth 20000 in
theorem ggL_law_X2_replaceTold : GoodIn wsL_law wsX2_replaceTold := goodIn_r _ [204, 16, 69, 70, 71, 15, 72, 32, 73, 74, 75, 20, 76, 44, 43, 172, 173, 174, 175, 176, 33, 107, 108, 109, 110, 111, 112, 113, 114, 115, 116, 117, 118, 119, 120, 121, 122, 763, 764, 765, 766, 767, 768, 769, 770, 787, 788, 789, 790] (by decide +kernel) (by decide +kernel)
set_option maxRecDepth 20000 in
theorem gL_law_X2_replaceTold : GoodIn wsL_law (wsV RL 97 RX2 yX2_replaceTold wsX2_replaceTold) := goodIn_app (goodIn_of _ (by decide +kernel)) ggL_law_X2_replaceTold
set_option maxRecDepth 20000 in
theorem ggL_law_X3_replaceTold : GoodIn wsL_law wsX3_replaceTold := goodIn_r _ [208, 143, 144, 145, 146, 5, 147, 148, 51, 132, 133, 134, 135, 50, 131, 136, 137, 138, 149, 150, 151, 152, 771, 772, 773, 774, 775, 776, 777, 778, 779, 780, 781, 782, 783, 784, 785, 786] (by decide +kernel) (by decide +kernel)
set_option maxRecDepth 20000 in
theorem gL_law_X3_replaceTold : GoodIn wsL_law (wsV RL 101 RX3 yX3_replaceTold wsX3_replaceTold) := goodIn_app (goodIn_of _ (by decide +kernel)) ggL_law_X3_replaceTold
set_option maxRecDepth 20000 in
theorem ggL_law_X2_remove : GoodIn wsL_law wsX2_remove := goodIn_r _ [212, 16, 69, 70, 71, 15, 72, 32, 73, 74, 75, 20, 76, 44, 43, 172, 173, 174, 175, 176, 33, 107, 108, 109, 110, 111, 112, 113, 114, 213, 214, 215, 216, 217, 218, 219, 220, 221, 222, 223, 224, 763, 764, 765, 766, 767, 768, 769, 770, 787, 788, 789, 790] (by decide +kernel) (by decide +kernel)
set_option maxRecDepth 20000 in
theorem gL_law_X2_remove : GoodIn wsL_law (wsV RL 102 RX2 yX2_remove wsX2_remove) := goodIn_app (goodIn_of _ (by decide +kernel)) ggL_law_X2_remove
set_option maxRecDepth 20000 in
theorem ggL_law_X3_remove : GoodIn wsL_law wsX3_remove := goodIn_r _ [228, 143, 148, 144, 145, 146, 5, 147, 51, 132, 133, 134, 135, 50, 131, 136, 137, 138, 229, 230, 231, 232, 771, 772, 773, 774, 775, 776, 777, 778, 779, 780, 781, 782, 783, 784, 785, 786] (by decide +kernel) (by decide +kernel)
set_option maxRecDepth 20000 in
theorem gL_law_X3_remove : GoodIn wsL_law (wsV RL 105 RX3 yX3_remove wsX3_remove) := goodIn_app (goodIn_of _ (by decide +kernel)) ggL_law_X3_remove
set_option maxRecDepth 20000 in
theorem ggL_law_X2_removeTold : GoodIn wsL_law wsX2_removeTold := goodIn_r _ [236, 16, 69, 70, 71, 15, 72, 32, 73, 74, 75, 20, 76, 44, 43, 172, 173, 174, 175, 176, 33, 107, 108, 109, 110, 111, 112, 113, 114, 213, 214, 215, 216, 217, 218, 219, 220, 221, 222, 223, 224, 763, 764, 765, 766, 767, 768, 769, 770, 787, 788, 789, 790] (by decide +kernel) (by decide +kernel)
set_option maxRecDepth 20000 in
theorem gL_law_X2_removeTold : GoodIn wsL_law (wsV RL 106 RX2 yX2_removeTold wsX2_removeTold) := goodIn_app (goodIn_of _ (by decide +kernel)) ggL_law_X2_removeTold
set_option maxRecDepth 20000 in
theorem ggL_law_X3_removeTold : GoodIn wsL_law wsX3_removeTold := goodIn_r _ [240, 143, 144, 145, 146, 5, 147, 148, 51, 132, 133, 134, 135, 50, 131, 136, 137, 138, 229, 230, 231, 232, 771, 772, 773, 774, 775, 776, 777, 778, 779, 780, 781, 782, 783, 784, 785, 786] (by decide +kernel) (by decide +kernel)
set_option maxRecDepth 20000 in
theorem gL_law_X3_removeTold : GoodIn wsL_law (wsV RL 110 RX3 yX3_removeTold wsX3_removeTold) := goodIn_app (goodIn_of _ (by decide +kernel)) ggL_law_X3_removeTold
set_option maxRecDepth 20000 in
theorem ggL_law_X2_containsKey : GoodIn wsL_law wsX2_containsKey := goodIn_r _ [244, 16, 245, 246, 247, 15, 248, 32, 249, 250, 251, 20, 252, 253, 74, 75, 76, 44, 43, 763, 764, 765, 766, 767, 768, 769, 770, 787, 788, 789, 790] (by decide +kernel) (by decide +kernel)
set_option maxRecDepth 20000 in
theorem gL_law_X2_containsKey : GoodIn wsL_law (wsV RL 111 RX2 yX2_containsKey wsX2_containsKey) := goodIn_app (goodIn_of _ (by decide +kernel)) ggL_law_X2_containsKey
set_option maxRecDepth 20000 in
theorem ggL_law_X3_containsKey : GoodIn wsL_law wsX3_containsKey := goodIn_r _ [257, 143, 132, 133, 134, 5, 135, 50, 131, 136, 137, 138, 771, 772, 773, 774, 775, 776, 777, 778, 779, 780, 781, 782, 783, 784, 785, 786] (by decide +kernel) (by decide +kernel)
set_option maxRecDepth 20000 in
theorem gL_law_X3_containsKey : GoodIn wsL_law (wsV RL 114 RX3 yX3_containsKey wsX3_containsKey) := goodIn_app (goodIn_of _ (by decide +kernel)) ggL_law_X3_containsKey
set_option maxRecDepth 20000 in
theorem ggL_law_X2_containsValue : GoodIn wsL_law wsX2_containsValue := goodIn_r _ [261, 16, 262, 263, 264, 15, 265, 33, 249, 250, 251, 20, 252, 253, 74, 75, 76, 44, 43, 763, 764, 765, 766, 767, 768, 769, 770, 787, 788, 789, 790] (by decide +kernel) (by decide +kernel)
set_option maxRecDepth 20000 in
theorem gL_law_X2_containsValue : GoodIn wsL_law (wsV RL 115 RX2 yX2_containsValue wsX2_containsValue) := goodIn_app (goodIn_of _ (by decide +kernel)) ggL_law_X2_containsValue
set_option maxRecDepth 20000 in
theorem ggL_law_X3_containsValue : GoodIn wsL_law wsX3_containsValue := goodIn_r _ [269, 143, 51, 131, 136, 137, 5, 138, 771, 772, 773, 774, 775, 776, 777, 778, 779, 780, 781, 782, 783, 784, 785, 786] (by decide +kernel) (by decide +kernel)
set_option maxRecDepth 20000 in
theorem gL_law_X3_containsValue : GoodIn wsL_law (wsV RL 118 RX3 yX3_containsValue wsX3_containsValue) := goodIn_app (goodIn_of _ (by decide +kernel)) ggL_law_X3_containsValue
set_option maxRecDepth 20000 in
theorem ggL_law_L_merge : GoodIn wsL_law wsL_merge := goodIn_ca (goodIn_r _ [272, 63, 273, 274, 275, 2, 276, 16, 69, 70, 71, 15, 72, 32, 73, 74, 75, 20, 76, 44, 43, 77, 78, 79, 80, 81, 82, 83, 84, 85, 86, 87, 88, 89, 90, 91, 92, 93, 94, 95, 96, 97, 98, 33, 99, 100, 101, 102, 103, 104, 105, 106, 107, 108, 109, 110, 111, 112, 113, 114, 277, 278, 279, 280, 68, 213, 214, 215, 216, 217, 218, 219, 220, 221, 222, 223, 224, 115, 116, 117, 118, 119, 120, 121, 122, 763, 764, 765, 766, 767, 768, 769, 770, 787, 788, 789, 790] (by decide +kernel) (by decide +kernel)) (goodIn_sub (fun _ h => List.mem_append_left _ (List.mem_append_left _ (List.mem_append_left _ (List.mem_append_right _ h)))) (by decide +kernel))
set_option maxRecDepth 20000 in
theorem gL_law_L_merge : GoodIn wsL_law (va_wsS RL 119 yL_merge wsL_merge) := goodIn_app (goodIn_of _ (by decide +kernel)) ggL_law_L_merge
set_option maxRecDepth 20000 in
theorem ggL_law_X3_merge : GoodIn wsL_law wsX3_merge := goodIn_r _ [284, 51, 127, 128, 129, 5, 130, 131, 132, 133, 134, 135, 50, 136, 137, 138, 139, 140, 141, 142, 143, 149, 150, 151, 152, 144, 145, 146, 147, 148, 229, 230, 231, 232, 771, 772, 773, 774, 775, 776, 777, 778, 779, 780, 781, 782, 783, 784, 785, 786] (by decide +kernel) (by decide +kernel)
set_option maxRecDepth 20000 in
theorem gL_law_X3_merge : GoodIn wsL_law (wsV RL 121 RX3 yX3_merge wsX3_merge) := goodIn_app (goodIn_of _ (by decide +kernel)) ggL_law_X3_merge
set_option maxRecDepth 20000 in
theorem ggL_law_L_computeIfAbsent : GoodIn wsL_law wsL_computeIfAbsent := goodIn_ca (goodIn_r _ [287, 63, 288, 289, 290, 2, 291, 16, 68, 69, 70, 71, 15, 72, 32, 73, 74, 75, 20, 76, 44, 43, 103, 104, 105, 106, 33, 107, 108, 109, 110, 111, 112, 113, 114, 81, 82, 83, 84, 85, 86, 87, 88, 89, 90, 91, 92, 93, 94, 95, 96, 97, 98, 99, 100, 101, 102, 763, 764, 765, 766, 767, 768, 769, 770, 787, 788, 789, 790] (by decide +kernel) (by decide +kernel)) (goodIn_sub (fun _ h => List.mem_append_left _ (List.mem_append_left _ (List.mem_append_left _ (List.mem_append_right _ h)))) (by decide +kernel))
set_option maxRecDepth 20000 in
theorem gL_law_L_computeIfAbsent : GoodIn wsL_law (va_wsS RL 122 yL_computeIfAbsent wsL_computeIfAbsent) := goodIn_app (goodIn_of _ (by decide +kernel)) ggL_law_L_computeIfAbsent
