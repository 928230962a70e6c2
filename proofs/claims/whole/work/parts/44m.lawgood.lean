set_option maxRecDepth 20000 in
theorem ggL_law_X3_use : GoodIn wsL_law wsX3_use := goodIn_r _ [658, 143, 630, 631, 632, 5, 633, 55, 372, 136, 137, 138, 638, 639, 640, 641, 642, 57, 626, 627, 628, 629, 148, 56, 771, 772, 773, 774, 775, 776, 777, 778, 779, 780, 781, 782, 783, 784, 785, 786] (by decide +kernel) (by decide +kernel)
set_option maxRecDepth 20000 in
theorem gL_law_X3_use : GoodIn wsL_law (wsV RL 223 RX3 yX3_use wsX3_use) := goodIn_app (goodIn_of _ (by decide +kernel)) ggL_law_X3_use
set_option maxRecDepth 20000 in
theorem ggL_law_X2_useOrDefault : GoodIn wsL_law wsX2_useOrDefault := goodIn_r _ [662, 22, 69, 70, 71, 15, 72, 32, 73, 74, 75, 20, 76, 44, 43, 103, 104, 105, 106, 33, 107, 108, 109, 110, 111, 112, 113, 114, 618, 619, 620, 2, 621, 25, 23, 593, 594, 595, 596, 213, 214, 215, 216, 217, 218, 219, 220, 221, 222, 223, 224, 524, 95, 96, 97, 98, 99, 100, 101, 102, 505, 588, 589, 590, 591, 24, 592, 39, 40, 41, 26, 87, 88, 89, 90, 91, 92, 93, 94, 763, 764, 765, 766, 767, 768, 769, 770, 787, 788, 789, 790] (by decide +kernel) (by decide +kernel)
set_option maxRecDepth 20000 in
theorem gL_law_X2_useOrDefault : GoodIn wsL_law (wsV RL 224 RX2 yX2_useOrDefault wsX2_useOrDefault) := goodIn_app (goodIn_of _ (by decide +kernel)) ggL_law_X2_useOrDefault
set_option maxRecDepth 20000 in
theorem ggL_law_X3_useOrDefault : GoodIn wsL_law wsX3_useOrDefault := goodIn_r _ [666, 143, 630, 631, 632, 5, 633, 55, 372, 136, 137, 138, 638, 639, 640, 641, 642, 57, 626, 627, 628, 629, 148, 56, 771, 772, 773, 774, 775, 776, 777, 778, 779, 780, 781, 782, 783, 784, 785, 786] (by decide +kernel) (by decide +kernel)
set_option maxRecDepth 20000 in
theorem gL_law_X3_useOrDefault : GoodIn wsL_law (wsV RL 227 RX3 yX3_useOrDefault wsX3_useOrDefault) := goodIn_app (goodIn_of _ (by decide +kernel)) ggL_law_X3_useOrDefault
set_option maxRecDepth 20000 in
theorem ggL_law_X2_look : GoodIn wsL_law wsX2_look := goodIn_r _ [670, 22, 245, 246, 247, 15, 248, 32, 249, 250, 251, 20, 252, 253, 74, 75, 76, 44, 43, 763, 764, 765, 766, 767, 768, 769, 770, 787, 788, 789, 790] (by decide +kernel) (by decide +kernel)
set_option maxRecDepth 20000 in
theorem gL_law_X2_look : GoodIn wsL_law (wsV RL 228 RX2 yX2_look wsX2_look) := goodIn_app (goodIn_of _ (by decide +kernel)) ggL_law_X2_look
set_option maxRecDepth 20000 in
theorem ggL_law_X3_look : GoodIn wsL_law wsX3_look := goodIn_r _ [674, 143, 630, 631, 632, 5, 633, 55, 372, 136, 137, 138, 771, 772, 773, 774, 775, 776, 777, 778, 779, 780, 781, 782, 783, 784, 785, 786] (by decide +kernel) (by decide +kernel)
set_option maxRecDepth 20000 in
theorem gL_law_X3_look : GoodIn wsL_law (wsV RL 231 RX3 yX3_look wsX3_look) := goodIn_app (goodIn_of _ (by decide +kernel)) ggL_law_X3_look
set_option maxRecDepth 20000 in
theorem ggL_law_X2_take : GoodIn wsL_law wsX2_take := goodIn_r _ [678, 22, 69, 70, 71, 15, 72, 32, 73, 74, 75, 20, 76, 44, 43, 172, 173, 174, 175, 176, 33, 107, 108, 109, 110, 111, 112, 113, 114, 593, 594, 595, 2, 596, 23, 213, 214, 215, 216, 217, 218, 219, 220, 221, 222, 223, 224, 524, 763, 764, 765, 766, 767, 768, 769, 770, 787, 788, 789, 790] (by decide +kernel) (by decide +kernel)
set_option maxRecDepth 20000 in
theorem gL_law_X2_take : GoodIn wsL_law (wsV RL 232 RX2 yX2_take wsX2_take) := goodIn_app (goodIn_of _ (by decide +kernel)) ggL_law_X2_take
set_option maxRecDepth 20000 in
theorem ggL_law_X3_take : GoodIn wsL_law wsX3_take := goodIn_r _ [682, 143, 148, 626, 627, 628, 5, 629, 56, 630, 631, 632, 633, 55, 372, 136, 137, 138, 610, 611, 612, 613, 57, 771, 772, 773, 774, 775, 776, 777, 778, 779, 780, 781, 782, 783, 784, 785, 786] (by decide +kernel) (by decide +kernel)
set_option maxRecDepth 20000 in
theorem gL_law_X3_take : GoodIn wsL_law (wsV RL 235 RX3 yX3_take wsX3_take) := goodIn_app (goodIn_of _ (by decide +kernel)) ggL_law_X3_take
set_option maxRecDepth 20000 in
theorem ggL_law_L_keyAt : GoodIn wsL_law wsL_keyAt := goodIn_ca (goodIn_r _ [685, 686, 687, 688, 689, 2, 690, 22, 691, 692, 693, 694, 695, 696, 87, 88, 89, 15, 90, 32, 91, 92, 93, 20, 94, 44, 364, 365, 366, 367, 107, 108, 109, 110, 43, 111, 112, 113, 114, 763, 764, 765, 766, 767, 768, 769, 770, 787, 788, 789, 790] (by decide +kernel) (by decide +kernel)) (goodIn_sub (fun _ h => List.mem_append_right _ h) (by decide +kernel))
set_option maxRecDepth 20000 in
theorem gL_law_L_keyAt : GoodIn wsL_law (va_wsS RL 236 yL_keyAt wsL_keyAt) := goodIn_app (goodIn_of _ (by decide +kernel)) ggL_law_L_keyAt
set_option maxRecDepth 20000 in
theorem ggL_law_X3_keyAt : GoodIn wsL_law wsX3_keyAt := goodIn_r _ [700, 372, 55, 330, 331, 5, 332, 139, 140, 141, 142, 143, 606, 607, 608, 609, 57, 771, 772, 773, 774, 775, 776, 777, 778, 779, 780, 781, 782, 783, 784, 785, 786] (by decide +kernel) (by decide +kernel)
set_option maxRecDepth 20000 in
theorem gL_law_X3_keyAt : GoodIn wsL_law (wsV RL 238 RX3 yX3_keyAt wsX3_keyAt) := goodIn_app (goodIn_of _ (by decide +kernel)) ggL_law_X3_keyAt
set_option maxRecDepth 20000 in
theorem ggL_law_L_valueAt : GoodIn wsL_law wsL_valueAt := goodIn_ca (goodIn_r _ [703, 686, 704, 705, 706, 2, 707, 22, 691, 692, 693, 694, 695, 696, 87, 88, 89, 15, 90, 32, 91, 92, 93, 20, 94, 44, 103, 104, 105, 106, 33, 107, 108, 109, 110, 43, 111, 112, 113, 114, 763, 764, 765, 766, 767, 768, 769, 770, 787, 788, 789, 790] (by decide +kernel) (by decide +kernel)) (goodIn_sub (fun _ h => List.mem_append_right _ h) (by decide +kernel))
set_option maxRecDepth 20000 in
theorem gL_law_L_valueAt : GoodIn wsL_law (va_wsS RL 239 yL_valueAt wsL_valueAt) := goodIn_app (goodIn_of _ (by decide +kernel)) ggL_law_L_valueAt
set_option maxRecDepth 20000 in
theorem ggL_law_X3_valueAt : GoodIn wsL_law wsX3_valueAt := goodIn_r _ [711, 372, 56, 330, 331, 5, 332, 139, 140, 141, 142, 143, 606, 607, 608, 609, 57, 771, 772, 773, 774, 775, 776, 777, 778, 779, 780, 781, 782, 783, 784, 785, 786] (by decide +kernel) (by decide +kernel)
set_option maxRecDepth 20000 in
theorem gL_law_X3_valueAt : GoodIn wsL_law (wsV RL 241 RX3 yX3_valueAt wsX3_valueAt) := goodIn_app (goodIn_of _ (by decide +kernel)) ggL_law_X3_valueAt
set_option maxRecDepth 20000 in
theorem ggL_law_X2_usedAt : GoodIn wsL_law wsX2_usedAt := goodIn_r _ [715, 22, 23, 69, 70, 71, 15, 72, 32, 73, 74, 75, 20, 76, 44, 43, 568, 108, 109, 110, 111, 112, 113, 114, 763, 764, 765, 766, 767, 768, 769, 770, 787, 788, 789, 790] (by decide +kernel) (by decide +kernel)
set_option maxRecDepth 20000 in
theorem gL_law_X2_usedAt : GoodIn wsL_law (wsV RL 242 RX2 yX2_usedAt wsX2_usedAt) := goodIn_app (goodIn_of _ (by decide +kernel)) ggL_law_X2_usedAt
set_option maxRecDepth 20000 in
theorem ggL_law_X3_usedAt : GoodIn wsL_law wsX3_usedAt := goodIn_r _ [719, 143, 57, 630, 631, 632, 5, 633, 55, 372, 136, 137, 138, 771, 772, 773, 774, 775, 776, 777, 778, 779, 780, 781, 782, 783, 784, 785, 786] (by decide +kernel) (by decide +kernel)
set_option maxRecDepth 20000 in
theorem gL_law_X3_usedAt : GoodIn wsL_law (wsV RL 245 RX3 yX3_usedAt wsX3_usedAt) := goodIn_app (goodIn_of _ (by decide +kernel)) ggL_law_X3_usedAt
