set_option maxRecDepth 20000 in
theorem ggL_law_X2_init : GoodIn wsL_law wsX2_init := goodIn_r _ [9, 10, 11, 12, 13, 14, 15, 16, 17, 18, 19, 20, 21, 22, 23, 24, 25, 26, 27, 28, 29, 30, 31, 32, 33, 34, 35, 36, 37, 38, 39, 40, 41, 42, 43, 44, 45, 787, 788, 763, 764, 765, 766, 767, 768, 769, 770, 789, 790] (by decide +kernel) (by decide +kernel)
set_option maxRecDepth 20000 in
theorem gL_law_X2_init : GoodIn wsL_law (wsX2_init) := ggL_law_X2_init
set_option maxRecDepth 20000 in
theorem ggL_law_X3_init : GoodIn wsL_law wsX3_init := goodIn_r _ [48, 49, 11, 12, 42, 50, 51, 52, 53, 54, 55, 56, 57, 58, 771, 772, 773, 774, 775, 776, 777, 778, 779, 780, 781, 782, 783, 784, 785, 786] (by decide +kernel) (by decide +kernel)
set_option maxRecDepth 20000 in
theorem gL_law_X3_init : GoodIn wsL_law (wsX3_init) := ggL_law_X3_init
set_option maxRecDepth 20000 in
theorem ggL_law_L_put : GoodIn wsL_law wsL_put := goodIn_ca (goodIn_r _ [62, 63, 64, 65, 66, 2, 67, 16, 68, 69, 70, 71, 15, 72, 32, 73, 74, 75, 20, 76, 44, 43, 77, 78, 79, 80, 81, 82, 83, 84, 85, 86, 87, 88, 89, 90, 91, 92, 93, 94, 95, 96, 97, 98, 33, 99, 100, 101, 102, 103, 104, 105, 106, 107, 108, 109, 110, 111, 112, 113, 114, 115, 116, 117, 118, 119, 120, 121, 122, 763, 764, 765, 766, 767, 768, 769, 770, 787, 788, 789, 790] (by decide +kernel) (by decide +kernel)) (goodIn_sub (fun _ h => List.mem_append_left _ (List.mem_append_left _ (List.mem_append_left _ (List.mem_append_right _ h)))) (by decide +kernel))
set_option maxRecDepth 20000 in
theorem gL_law_L_put : GoodIn wsL_law (va_wsS RL 72 yL_put wsL_put) := goodIn_app (goodIn_of _ (by decide +kernel)) ggL_law_L_put
set_option maxRecDepth 20000 in
theorem ggL_law_X3_put : GoodIn wsL_law wsX3_put := goodIn_r _ [126, 127, 128, 129, 5, 130, 131, 132, 133, 134, 135, 50, 136, 137, 138, 139, 140, 141, 142, 143, 144, 145, 146, 147, 148, 51, 149, 150, 151, 152, 771, 772, 773, 774, 775, 776, 777, 778, 779, 780, 781, 782, 783, 784, 785, 786] (by decide +kernel) (by decide +kernel)
set_option maxRecDepth 20000 in
theorem gL_law_X3_put : GoodIn wsL_law (wsV RL 77 RX3 yX3_put wsX3_put) := goodIn_app (goodIn_of _ (by decide +kernel)) ggL_law_X3_put
set_option maxRecDepth 20000 in
theorem ggL_law_X3_thrown : GoodIn wsL_law wsX3_thrown := goodIn_r _ [156, 143, 771, 772, 773, 774, 775, 776, 777, 778, 779, 780, 781, 782, 783, 784, 785, 786] (by decide +kernel) (by decide +kernel)
set_option maxRecDepth 20000 in
theorem gL_law_X3_thrown : GoodIn wsL_law (wsV RL 78 RX3 yX3_thrown wsX3_thrown) := goodIn_app (goodIn_of _ (by decide +kernel)) ggL_law_X3_thrown
set_option maxRecDepth 20000 in
theorem ggL_law_L_putIfAbsent : GoodIn wsL_law wsL_putIfAbsent := goodIn_ca (goodIn_r _ [159, 63, 160, 161, 162, 2, 163, 16, 68, 69, 70, 71, 15, 72, 32, 73, 74, 75, 20, 76, 44, 43, 77, 78, 79, 80, 81, 82, 83, 84, 85, 86, 87, 88, 89, 90, 91, 92, 93, 94, 95, 96, 97, 98, 33, 99, 100, 101, 102, 103, 104, 105, 106, 107, 108, 109, 110, 111, 112, 113, 114, 763, 764, 765, 766, 767, 768, 769, 770, 787, 788, 789, 790] (by decide +kernel) (by decide +kernel)) (goodIn_sub (fun _ h => List.mem_append_left _ (List.mem_append_left _ (List.mem_append_left _ (List.mem_append_right _ h)))) (by decide +kernel))
set_option maxRecDepth 20000 in
theorem gL_law_L_putIfAbsent : GoodIn wsL_law (va_wsS RL 81 yL_putIfAbsent wsL_putIfAbsent) := goodIn_app (goodIn_of _ (by decide +kernel)) ggL_law_L_putIfAbsent
set_option maxRecDepth 20000 in
theorem ggL_law_X3_putIfAbsent : GoodIn wsL_law wsX3_putIfAbsent := goodIn_r _ [167, 148, 127, 128, 129, 5, 130, 131, 132, 133, 134, 135, 50, 136, 137, 138, 139, 140, 141, 142, 143, 144, 145, 146, 147, 51, 149, 150, 151, 152, 771, 772, 773, 774, 775, 776, 777, 778, 779, 780, 781, 782, 783, 784, 785, 786] (by decide +kernel) (by decide +kernel)
set_option maxRecDepth 20000 in
theorem gL_law_X3_putIfAbsent : GoodIn wsL_law (wsV RL 83 RX3 yX3_putIfAbsent wsX3_putIfAbsent) := goodIn_app (goodIn_of _ (by decide +kernel)) ggL_law_X3_putIfAbsent
set_option maxRecDepth 20000 in
theorem ggL_law_X2_get : GoodIn wsL_law wsX2_get := goodIn_r _ [171, 16, 69, 70, 71, 15, 72, 32, 73, 74, 75, 20, 76, 44, 43, 172, 173, 174, 175, 176, 33, 107, 108, 109, 110, 111, 112, 113, 114, 763, 764, 765, 766, 767, 768, 769, 770, 787, 788, 789, 790] (by decide +kernel) (by decide +kernel)
set_option maxRecDepth 20000 in
theorem gL_law_X2_get : GoodIn wsL_law (wsV RL 84 RX2 yX2_get wsX2_get) := goodIn_app (goodIn_of _ (by decide +kernel)) ggL_law_X2_get
set_option maxRecDepth 20000 in
theorem ggL_law_X3_get : GoodIn wsL_law wsX3_get := goodIn_r _ [180, 143, 144, 145, 146, 5, 147, 148, 51, 132, 133, 134, 135, 50, 131, 136, 137, 138, 771, 772, 773, 774, 775, 776, 777, 778, 779, 780, 781, 782, 783, 784, 785, 786] (by decide +kernel) (by decide +kernel)
set_option maxRecDepth 20000 in
theorem gL_law_X3_get : GoodIn wsL_law (wsV RL 87 RX3 yX3_get wsX3_get) := goodIn_app (goodIn_of _ (by decide +kernel)) ggL_law_X3_get
set_option maxRecDepth 20000 in
theorem ggL_law_X2_getOrDefault : GoodIn wsL_law wsX2_getOrDefault := goodIn_r _ [184, 16, 69, 70, 71, 15, 72, 32, 73, 74, 75, 20, 76, 44, 43, 185, 186, 187, 188, 33, 107, 108, 109, 110, 111, 112, 113, 114, 763, 764, 765, 766, 767, 768, 769, 770, 787, 788, 789, 790] (by decide +kernel) (by decide +kernel)
set_option maxRecDepth 20000 in
theorem gL_law_X2_getOrDefault : GoodIn wsL_law (wsV RL 88 RX2 yX2_getOrDefault wsX2_getOrDefault) := goodIn_app (goodIn_of _ (by decide +kernel)) ggL_law_X2_getOrDefault
set_option maxRecDepth 20000 in
theorem ggL_law_X3_getOrDefault : GoodIn wsL_law wsX3_getOrDefault := goodIn_r _ [192, 143, 148, 144, 145, 146, 5, 147, 51, 132, 133, 134, 135, 50, 131, 136, 137, 138, 771, 772, 773, 774, 775, 776, 777, 778, 779, 780, 781, 782, 783, 784, 785, 786] (by decide +kernel) (by decide +kernel)
set_option maxRecDepth 20000 in
theorem gL_law_X3_getOrDefault : GoodIn wsL_law (wsV RL 92 RX3 yX3_getOrDefault wsX3_getOrDefault) := goodIn_app (goodIn_of _ (by decide +kernel)) ggL_law_X3_getOrDefault
set_option maxRecDepth 20000 in
theorem ggL_law_X2_replace : GoodIn wsL_law wsX2_replace := goodIn_r _ [196, 16, 69, 70, 71, 15, 72, 32, 73, 74, 75, 20, 76, 44, 43, 172, 173, 174, 175, 176, 33, 107, 108, 109, 110, 111, 112, 113, 114, 115, 116, 117, 118, 119, 120, 121, 122, 763, 764, 765, 766, 767, 768, 769, 770, 787, 788, 789, 790] (by decide +kernel) (by decide +kernel)
set_option maxRecDepth 20000 in
theorem gL_law_X2_replace : GoodIn wsL_law (wsV RL 93 RX2 yX2_replace wsX2_replace) := goodIn_app (goodIn_of _ (by decide +kernel)) ggL_law_X2_replace
set_option maxRecDepth 20000 in
theorem ggL_law_X3_replace : GoodIn wsL_law wsX3_replace := goodIn_r _ [200, 143, 148, 144, 145, 146, 5, 147, 51, 132, 133, 134, 135, 50, 131, 136, 137, 138, 149, 150, 151, 152, 771, 772, 773, 774, 775, 776, 777, 778, 779, 780, 781, 782, 783, 784, 785, 786] (by decide +kernel) (by decide +kernel)
set_option maxRecDepth 20000 in
theorem gL_law_X3_replace : GoodIn wsL_law (wsV RL 96 RX3 yX3_replace wsX3_replace) := goodIn_app (goodIn_of _ (by decide +kernel)) ggL_law_X3_replace
