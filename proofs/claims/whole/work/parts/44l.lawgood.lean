set_option maxRecDepth 20000 in
theorem ggL_law_L_markKeys : GoodIn wsL_law wsL_markKeys := goodIn_ca (goodIn_r _ [551, 63, 552, 553, 554, 2, 555, 16, 21, 556, 557, 558, 559, 87, 88, 89, 15, 90, 32, 91, 92, 93, 20, 94, 44, 364, 365, 366, 367, 107, 108, 109, 110, 43, 111, 112, 113, 114, 499, 250, 251, 252, 253, 74, 75, 76, 500, 501, 502, 503, 85, 86, 504, 505, 100, 101, 102, 763, 764, 765, 766, 767, 768, 769, 770, 787, 788, 789, 790] (by decide +kernel) (by decide +kernel)) (goodIn_sub (fun _ h => List.mem_append_left _ (List.mem_append_left _ (List.mem_append_left _ (List.mem_append_right _ h)))) (by decide +kernel))
set_option maxRecDepth 20000 in
theorem gL_law_L_markKeys : GoodIn wsL_law (va_wsS RL 198 yL_markKeys wsL_markKeys) := goodIn_app (goodIn_of _ (by decide +kernel)) ggL_law_L_markKeys
set_option maxRecDepth 20000 in
theorem ggL_law_X3_markKeys : GoodIn wsL_law wsX3_markKeys := goodIn_r _ [563, 131, 50, 510, 511, 512, 513, 5, 514, 54, 136, 137, 138, 139, 140, 141, 142, 143, 515, 516, 517, 518, 771, 772, 773, 774, 775, 776, 777, 778, 779, 780, 781, 782, 783, 784, 785, 786] (by decide +kernel) (by decide +kernel)
set_option maxRecDepth 20000 in
theorem gL_law_X3_markKeys : GoodIn wsL_law (wsV RL 200 RX3 yX3_markKeys wsX3_markKeys) := goodIn_app (goodIn_of _ (by decide +kernel)) ggL_law_X3_markKeys
set_option maxRecDepth 20000 in
theorem ggL_law_X2_unmarkOthers : GoodIn wsL_law wsX2_unmarkOthers := goodIn_r _ [567, 21, 16, 504, 92, 93, 20, 94, 44, 568, 108, 109, 110, 43, 111, 112, 113, 114, 245, 246, 247, 15, 248, 32, 249, 250, 251, 252, 253, 74, 75, 76, 524, 218, 219, 220, 221, 222, 223, 224, 763, 764, 765, 766, 767, 768, 769, 770, 789, 790, 787, 788] (by decide +kernel) (by decide +kernel)
set_option maxRecDepth 20000 in
theorem gL_law_X2_unmarkOthers : GoodIn wsL_law (wsV RL 201 RX2 yX2_unmarkOthers wsX2_unmarkOthers) := goodIn_app (goodIn_of _ (by decide +kernel)) ggL_law_X2_unmarkOthers
set_option maxRecDepth 20000 in
theorem ggL_law_X3_unmarkOthers : GoodIn wsL_law wsX3_unmarkOthers := goodIn_r _ [572, 143, 510, 54, 132, 133, 134, 5, 135, 50, 131, 136, 137, 138, 529, 530, 531, 532, 771, 772, 773, 774, 775, 776, 777, 778, 779, 780, 781, 782, 783, 784, 785, 786] (by decide +kernel) (by decide +kernel)
set_option maxRecDepth 20000 in
theorem gL_law_X3_unmarkOthers : GoodIn wsL_law (wsV RL 204 RX3 yX3_unmarkOthers wsX3_unmarkOthers) := goodIn_app (goodIn_of _ (by decide +kernel)) ggL_law_X3_unmarkOthers
set_option maxRecDepth 20000 in
theorem ggL_law_X2_dropMarked : GoodIn wsL_law wsX2_dropMarked := goodIn_r _ [576, 16, 21, 87, 88, 89, 15, 90, 32, 91, 92, 93, 20, 94, 44, 364, 365, 366, 367, 107, 108, 109, 110, 43, 111, 112, 113, 114, 499, 250, 251, 252, 253, 74, 75, 76, 213, 214, 215, 216, 33, 217, 218, 219, 220, 221, 222, 223, 224, 763, 764, 765, 766, 767, 768, 769, 770, 787, 788, 789, 790] (by decide +kernel) (by decide +kernel)
set_option maxRecDepth 20000 in
theorem gL_law_X2_dropMarked : GoodIn wsL_law (wsV RL 205 RX2 yX2_dropMarked wsX2_dropMarked) := goodIn_app (goodIn_of _ (by decide +kernel)) ggL_law_X2_dropMarked
set_option maxRecDepth 20000 in
theorem ggL_law_X3_dropMarked : GoodIn wsL_law wsX3_dropMarked := goodIn_r _ [580, 143, 131, 50, 511, 512, 513, 5, 514, 54, 510, 136, 137, 138, 229, 230, 231, 232, 51, 771, 772, 773, 774, 775, 776, 777, 778, 779, 780, 781, 782, 783, 784, 785, 786] (by decide +kernel) (by decide +kernel)
set_option maxRecDepth 20000 in
theorem gL_law_X3_dropMarked : GoodIn wsL_law (wsV RL 208 RX3 yX3_dropMarked wsX3_dropMarked) := goodIn_app (goodIn_of _ (by decide +kernel)) ggL_law_X3_dropMarked
set_option maxRecDepth 20000 in
theorem ggL_law_L_room : GoodIn wsL_law wsL_room := goodIn_ca (goodIn_r _ [583, 307, 584, 585, 586, 2, 587, 312, 313, 24, 588, 589, 590, 591, 22, 592, 39, 40, 41, 26, 87, 88, 89, 15, 90, 32, 91, 92, 93, 20, 94, 44, 593, 594, 595, 596, 23, 213, 214, 215, 216, 33, 217, 218, 219, 220, 43, 221, 222, 223, 224, 111, 112, 113, 114, 524, 763, 764, 765, 766, 767, 768, 769, 770, 787, 788, 789, 790] (by decide +kernel) (by decide +kernel)) (goodIn_sub (fun _ h => List.mem_append_left _ (List.mem_append_left _ (List.mem_append_right _ h))) (by decide +kernel))
set_option maxRecDepth 20000 in
theorem gL_law_L_room : GoodIn wsL_law (va_wsS RL 209 yL_room wsL_room) := goodIn_app (goodIn_of _ (by decide +kernel)) ggL_law_L_room
set_option maxRecDepth 20000 in
theorem ggL_law_X3_room : GoodIn wsL_law wsX3_room := goodIn_r _ [600, 58, 330, 331, 5, 332, 139, 140, 141, 142, 143, 601, 602, 603, 604, 372, 605, 606, 607, 608, 609, 57, 610, 611, 612, 613, 55, 56, 771, 772, 773, 774, 775, 776, 777, 778, 779, 780, 781, 782, 783, 784, 785, 786] (by decide +kernel) (by decide +kernel)
set_option maxRecDepth 20000 in
theorem gL_law_X3_room : GoodIn wsL_law (wsV RL 211 RX3 yX3_room wsX3_room) := goodIn_app (goodIn_of _ (by decide +kernel)) ggL_law_X3_room
set_option maxRecDepth 20000 in
theorem ggL_law_X2_lay : GoodIn wsL_law wsX2_lay := goodIn_r _ [617, 22, 69, 70, 71, 15, 72, 32, 73, 74, 75, 20, 76, 44, 43, 172, 173, 174, 175, 176, 33, 107, 108, 109, 110, 111, 112, 113, 114, 618, 619, 620, 2, 621, 25, 23, 593, 594, 595, 596, 213, 214, 215, 216, 217, 218, 219, 220, 221, 222, 223, 224, 524, 95, 96, 97, 98, 99, 100, 101, 102, 505, 588, 589, 590, 591, 24, 592, 39, 40, 41, 26, 87, 88, 89, 90, 91, 92, 93, 94, 763, 764, 765, 766, 767, 768, 769, 770, 787, 788, 789, 790] (by decide +kernel) (by decide +kernel)
set_option maxRecDepth 20000 in
theorem gL_law_X2_lay : GoodIn wsL_law (wsV RL 212 RX2 yX2_lay wsX2_lay) := goodIn_app (goodIn_of _ (by decide +kernel)) ggL_law_X2_lay
set_option maxRecDepth 20000 in
theorem ggL_law_X3_lay : GoodIn wsL_law wsX3_lay := goodIn_r _ [625, 143, 626, 627, 628, 5, 629, 148, 56, 630, 631, 632, 633, 55, 372, 136, 137, 138, 634, 635, 636, 637, 638, 639, 640, 641, 642, 57, 601, 602, 603, 604, 58, 605, 606, 607, 608, 609, 610, 611, 612, 613, 771, 772, 773, 774, 775, 776, 777, 778, 779, 780, 781, 782, 783, 784, 785, 786] (by decide +kernel) (by decide +kernel)
set_option maxRecDepth 20000 in
theorem gL_law_X3_lay : GoodIn wsL_law (wsV RL 215 RX3 yX3_lay wsX3_lay) := goodIn_app (goodIn_of _ (by decide +kernel)) ggL_law_X3_lay
set_option maxRecDepth 20000 in
theorem ggL_law_X2_layIfAbsent : GoodIn wsL_law wsX2_layIfAbsent := goodIn_r _ [646, 22, 69, 70, 71, 15, 72, 32, 73, 74, 75, 20, 76, 44, 43, 172, 173, 174, 175, 176, 33, 107, 108, 109, 110, 111, 112, 113, 114, 185, 186, 187, 188, 618, 619, 620, 2, 621, 25, 23, 593, 594, 595, 596, 213, 214, 215, 216, 217, 218, 219, 220, 221, 222, 223, 224, 524, 95, 96, 97, 98, 99, 100, 101, 102, 505, 588, 589, 590, 591, 24, 592, 39, 40, 41, 26, 87, 88, 89, 90, 91, 92, 93, 94, 763, 764, 765, 766, 767, 768, 769, 770, 787, 788, 789, 790] (by decide +kernel) (by decide +kernel)
set_option maxRecDepth 20000 in
theorem gL_law_X2_layIfAbsent : GoodIn wsL_law (wsV RL 216 RX2 yX2_layIfAbsent wsX2_layIfAbsent) := goodIn_app (goodIn_of _ (by decide +kernel)) ggL_law_X2_layIfAbsent
set_option maxRecDepth 20000 in
theorem ggL_law_X3_layIfAbsent : GoodIn wsL_law wsX3_layIfAbsent := goodIn_r _ [650, 143, 148, 626, 627, 628, 5, 629, 56, 630, 631, 632, 633, 55, 372, 136, 137, 138, 634, 635, 636, 637, 638, 639, 640, 641, 642, 57, 601, 602, 603, 604, 58, 605, 606, 607, 608, 609, 610, 611, 612, 613, 771, 772, 773, 774, 775, 776, 777, 778, 779, 780, 781, 782, 783, 784, 785, 786] (by decide +kernel) (by decide +kernel)
set_option maxRecDepth 20000 in
theorem gL_law_X3_layIfAbsent : GoodIn wsL_law (wsV RL 219 RX3 yX3_layIfAbsent wsX3_layIfAbsent) := goodIn_app (goodIn_of _ (by decide +kernel)) ggL_law_X3_layIfAbsent
set_option maxRecDepth 20000 in
theorem ggL_law_X2_use : GoodIn wsL_law wsX2_use := goodIn_r _ [654, 22, 68, 69, 70, 71, 15, 72, 32, 73, 74, 75, 20, 76, 44, 43, 103, 104, 105, 106, 33, 107, 108, 109, 110, 111, 112, 113, 114, 618, 619, 620, 2, 621, 25, 23, 593, 594, 595, 596, 213, 214, 215, 216, 217, 218, 219, 220, 221, 222, 223, 224, 524, 95, 96, 97, 98, 99, 100, 101, 102, 505, 588, 589, 590, 591, 24, 592, 39, 40, 41, 26, 87, 88, 89, 90, 91, 92, 93, 94, 763, 764, 765, 766, 767, 768, 769, 770, 787, 788, 789, 790] (by decide +kernel) (by decide +kernel)
set_option maxRecDepth 20000 in
theorem gL_law_X2_use : GoodIn wsL_law (wsV RL 220 RX2 yX2_use wsX2_use) := goodIn_app (goodIn_of _ (by decide +kernel)) ggL_law_X2_use
