set_option maxRecDepth 20000 in
theorem ggL_line_X6_line : GoodIn wsL_line wtX6_line := goodIn_ca (goodIn_r _ [6, 7, 8, 9, 10, 11, 12, 13, 14, 15, 16, 17, 18, 19, 20, 21, 22, 23, 24, 25, 26, 27, 28, 29, 30, 31, 32, 33, 34, 35, 36, 37, 38, 39, 40, 41, 42, 43, 44, 45, 46, 47] (by decide +kernel) (by decide +kernel)) (goodIn_sub (fun _ h => List.mem_cons_of_mem _ (List.mem_append_right _ h)) (by decide +kernel))
set_option maxRecDepth 20000 in
theorem gL_line_X6_line : GoodIn wsL_line (wsV RL 7 RX6 yX6_line wtX6_line) := goodIn_app (goodIn_of _ (by decide +kernel)) ggL_line_X6_line
set_option maxRecDepth 20000 in
theorem ggL_share_X6_share : GoodIn wsL_share wtX6_share := goodIn_ca (goodIn_r _ [6, 7, 8, 9, 10, 11, 12, 13, 14, 15, 16, 17, 18, 19, 20, 21, 22, 23, 24, 25, 26, 27, 28, 29, 30, 31, 32, 33, 5, 34, 35, 36, 37, 38, 39, 40, 41, 42, 43, 44, 45, 46, 47, 48, 49, 50, 51, 52, 53, 54, 55, 56, 57, 58, 59, 60, 61, 62, 63, 64, 65, 66, 67, 68, 69, 70, 71, 72, 73, 74, 75, 76, 77, 78, 79, 80, 81, 82, 83, 84, 85, 86, 87, 88, 89, 90, 91, 92, 93, 94, 95, 96, 97, 98, 99, 100, 101, 102, 103, 104, 105, 106, 107, 108, 109, 110, 111, 112, 113, 114, 115, 116, 117, 118, 119, 120, 121, 122, 123, 124, 125, 126, 127, 128, 129, 130, 131, 132, 133, 134, 135, 136, 137, 138, 139, 140, 141, 142, 143, 144, 145, 146, 147, 148, 149, 150, 151, 152, 153, 154, 155, 156, 157, 158, 159, 160, 161, 162, 163, 164, 165, 166, 167, 168, 169, 170, 171, 172, 173, 174, 175, 176, 177, 178, 179, 180, 181, 182, 183, 184, 185, 186, 187, 188, 189, 190, 191, 192, 193, 194, 195] (by decide +kernel) (by decide +kernel)) (goodIn_sub (fun _ h => List.mem_cons_of_mem _ (List.mem_append_right _ h)) (by decide +kernel))
set_option maxRecDepth 20000 in
theorem gL_share_X6_share : GoodIn wsL_share (wsV RL 15 RX6 yX6_share wtX6_share) := goodIn_app (goodIn_of _ (by decide +kernel)) ggL_share_X6_share
set_option maxRecDepth 20000 in
theorem ggL_law_X6_init : GoodIn wsL_law wsX6_init := goodIn_r _ [9, 10, 11, 12, 13, 14, 15, 16, 17, 18, 19, 20, 21, 22, 23, 24, 25, 26, 27, 28, 29, 30, 31, 32, 33, 34, 35, 36, 37, 38, 39, 40, 41, 42, 43, 44, 45, 46, 47, 48, 49, 50, 51, 52, 53, 54, 55, 56, 57, 58, 59, 60, 61, 62, 63, 64, 65, 66, 67, 68, 69, 70, 71, 72, 73, 74, 75, 76, 77, 78, 79, 80, 81, 82, 83, 84, 85, 86, 87, 88, 89, 90, 91, 92, 93, 94, 95, 96, 97, 98, 99, 100, 101, 102, 103, 104, 105, 106, 107, 654, 655, 656, 657, 658, 659, 660, 661, 606, 607, 608, 609, 610, 611, 612, 613, 614, 615, 616, 662, 663, 664, 665, 666, 667, 668, 669, 670, 671, 672, 673, 674, 675, 676, 677, 678, 679, 680, 681, 682, 683, 684, 685] (by decide +kernel) (by decide +kernel)
set_option maxRecDepth 20000 in
theorem gL_law_X6_init : GoodIn wsL_law (wsX6_init) := ggL_law_X6_init
set_option maxRecDepth 20000 in
theorem ggL_law_X7_init : GoodIn wsL_law wsX7_init := goodIn_r _ [110, 111, 11, 12, 112, 39, 113, 114, 115, 116, 117, 118, 119, 120, 121, 122, 123, 124, 125, 126, 127, 128, 129, 130, 131, 132, 133, 134, 135, 136, 137, 138, 139, 140, 141, 617, 618, 619, 620, 621, 622, 623, 624, 625, 626, 627, 628, 629, 630, 631, 632, 633, 634, 635, 636, 637, 638, 639, 640, 641, 642, 643, 644, 645, 646, 647, 648, 649, 650, 651, 652, 653] (by decide +kernel) (by decide +kernel)
set_option maxRecDepth 20000 in
theorem gL_law_X7_init : GoodIn wsL_law (wsX7_init) := ggL_law_X7_init
set_option maxRecDepth 20000 in
theorem ggL_law_X6_fields : GoodIn wsL_law wsX6_fields := goodIn_r _ [145, 42, 16, 146, 147, 148, 2, 149, 606, 607, 608, 609, 610, 611, 612, 613, 614, 615, 616, 654, 655, 656, 657, 658, 659, 660, 661] (by decide +kernel) (by decide +kernel)
set_option maxRecDepth 20000 in
theorem gL_law_X6_fields : GoodIn wsL_law (wsV RL 23 RX6 yX6_fields wsX6_fields) := goodIn_app (goodIn_of _ (by decide +kernel)) ggL_law_X6_fields
set_option maxRecDepth 20000 in
theorem ggL_law_X7_fields : GoodIn wsL_law wsX7_fields := goodIn_r _ [153, 154, 155, 112, 156, 157, 5, 158, 617, 618, 619, 620, 621, 622, 623, 624, 625, 626, 627, 628, 629, 630, 631, 632, 633, 634, 635, 636, 637, 638, 639, 640, 641, 642, 643, 644, 645, 646, 647, 648, 649, 650, 651, 652, 653] (by decide +kernel) (by decide +kernel)
set_option maxRecDepth 20000 in
theorem gL_law_X7_fields : GoodIn wsL_law (wsV RL 27 RX7 yX7_fields wsX7_fields) := goodIn_app (goodIn_of _ (by decide +kernel)) ggL_law_X7_fields
set_option maxRecDepth 20000 in
theorem ggL_law_X6_sand : GoodIn wsL_law wsX6_sand := goodIn_r _ [162, 41, 16, 163, 164, 165, 166, 167, 15, 168, 47, 147, 148, 2, 149, 169, 170, 171, 172, 42, 21, 98, 99, 100, 20, 101, 102, 62, 103, 104, 105, 106, 63, 64, 65, 66, 107, 56, 57, 58, 606, 607, 608, 609, 610, 611, 612, 613, 614, 615, 616, 654, 655, 656, 657, 658, 659, 660, 661, 662, 663, 664, 665, 666, 667] (by decide +kernel) (by decide +kernel)
set_option maxRecDepth 20000 in
theorem gL_law_X6_sand : GoodIn wsL_law (wsV RL 28 RX6 yX6_sand wsX6_sand) := goodIn_app (goodIn_of _ (by decide +kernel)) ggL_law_X6_sand
set_option maxRecDepth 20000 in
theorem ggL_law_X7_sand : GoodIn wsL_law wsX7_sand := goodIn_r _ [176, 154, 177, 178, 113, 155, 179, 180, 181, 5, 182, 112, 156, 157, 158, 617, 618, 619, 620, 621, 622, 623, 624, 625, 626, 627, 628, 629, 630, 631, 632, 633, 634, 635, 636, 637, 638, 639, 640, 641, 642, 643, 644, 645, 646, 647, 648, 649, 650, 651, 652, 653] (by decide +kernel) (by decide +kernel)
set_option maxRecDepth 20000 in
theorem gL_law_X7_sand : GoodIn wsL_law (wsV RL 32 RX7 yX7_sand wsX7_sand) := goodIn_app (goodIn_of _ (by decide +kernel)) ggL_law_X7_sand
set_option maxRecDepth 20000 in
theorem ggL_law_X6_groyne : GoodIn wsL_law wsX6_groyne := goodIn_r _ [186, 41, 16, 187, 188, 189, 15, 190, 47, 147, 148, 2, 149, 191, 192, 193, 194, 52, 53, 54, 169, 170, 171, 172, 42, 21, 98, 99, 100, 20, 101, 102, 62, 103, 104, 105, 106, 63, 64, 65, 66, 107, 56, 57, 58, 606, 607, 608, 609, 610, 611, 612, 613, 614, 615, 616, 654, 655, 656, 657, 658, 659, 660, 661, 662, 663, 664, 665, 666, 667] (by decide +kernel) (by decide +kernel)
set_option maxRecDepth 20000 in
theorem gL_law_X6_groyne : GoodIn wsL_law (wsV RL 33 RX6 yX6_groyne wsX6_groyne) := goodIn_app (goodIn_of _ (by decide +kernel)) ggL_law_X6_groyne
set_option maxRecDepth 20000 in
theorem ggL_law_X7_groyne : GoodIn wsL_law wsX7_groyne := goodIn_r _ [198, 154, 178, 114, 115, 116, 155, 199, 200, 201, 5, 202, 112, 156, 157, 158, 617, 618, 619, 620, 621, 622, 623, 624, 625, 626, 627, 628, 629, 630, 631, 632, 633, 634, 635, 636, 637, 638, 639, 640, 641, 642, 643, 644, 645, 646, 647, 648, 649, 650, 651, 652, 653] (by decide +kernel) (by decide +kernel)
set_option maxRecDepth 20000 in
theorem gL_law_X7_groyne : GoodIn wsL_law (wsV RL 37 RX7 yX7_groyne wsX7_groyne) := goodIn_app (goodIn_of _ (by decide +kernel)) ggL_law_X7_groyne
set_option maxRecDepth 20000 in
theorem ggL_law_X6_mouth : GoodIn wsL_law wsX6_mouth := goodIn_r _ [206, 41, 16, 187, 188, 189, 15, 190, 47, 147, 148, 2, 149, 191, 192, 193, 194, 52, 53, 54, 169, 170, 171, 172, 42, 21, 98, 99, 100, 20, 101, 102, 62, 103, 104, 105, 106, 63, 64, 65, 66, 107, 56, 57, 58, 606, 607, 608, 609, 610, 611, 612, 613, 614, 615, 616, 654, 655, 656, 657, 658, 659, 660, 661, 662, 663, 664, 665, 666, 667] (by decide +kernel) (by decide +kernel)
set_option maxRecDepth 20000 in
theorem gL_law_X6_mouth : GoodIn wsL_law (wsV RL 38 RX6 yX6_mouth wsX6_mouth) := goodIn_app (goodIn_of _ (by decide +kernel)) ggL_law_X6_mouth
set_option maxRecDepth 20000 in
theorem ggL_law_X7_mouth : GoodIn wsL_law wsX7_mouth := goodIn_r _ [210, 154, 178, 114, 115, 116, 155, 199, 200, 201, 5, 202, 112, 156, 157, 158, 617, 618, 619, 620, 621, 622, 623, 624, 625, 626, 627, 628, 629, 630, 631, 632, 633, 634, 635, 636, 637, 638, 639, 640, 641, 642, 643, 644, 645, 646, 647, 648, 649, 650, 651, 652, 653] (by decide +kernel) (by decide +kernel)
set_option maxRecDepth 20000 in
theorem gL_law_X7_mouth : GoodIn wsL_law (wsV RL 41 RX7 yX7_mouth wsX7_mouth) := goodIn_app (goodIn_of _ (by decide +kernel)) ggL_law_X7_mouth
set_option maxRecDepth 20000 in
theorem ggL_law_X6_wall : GoodIn wsL_law wsX6_wall := goodIn_r _ [214, 41, 16, 215, 165, 166, 167, 15, 168, 47, 147, 148, 2, 149, 169, 170, 171, 172, 42, 21, 98, 99, 100, 20, 101, 102, 62, 103, 104, 105, 106, 63, 64, 65, 66, 107, 56, 57, 58, 606, 607, 608, 609, 610, 611, 612, 613, 614, 615, 616, 654, 655, 656, 657, 658, 659, 660, 661, 662, 663, 664, 665, 666, 667] (by decide +kernel) (by decide +kernel)
set_option maxRecDepth 20000 in
theorem gL_law_X6_wall : GoodIn wsL_law (wsV RL 42 RX6 yX6_wall wsX6_wall) := goodIn_app (goodIn_of _ (by decide +kernel)) ggL_law_X6_wall
set_option maxRecDepth 20000 in
theorem ggL_law_X7_wall : GoodIn wsL_law wsX7_wall := goodIn_r _ [219, 154, 178, 117, 155, 179, 180, 181, 5, 182, 112, 156, 157, 158, 617, 618, 619, 620, 621, 622, 623, 624, 625, 626, 627, 628, 629, 630, 631, 632, 633, 634, 635, 636, 637, 638, 639, 640, 641, 642, 643, 644, 645, 646, 647, 648, 649, 650, 651, 652, 653] (by decide +kernel) (by decide +kernel)
set_option maxRecDepth 20000 in
theorem gL_law_X7_wall : GoodIn wsL_law (wsV RL 45 RX7 yX7_wall wsX7_wall) := goodIn_app (goodIn_of _ (by decide +kernel)) ggL_law_X7_wall
set_option maxRecDepth 20000 in
theorem ggL_law_X6_feed : GoodIn wsL_law wsX6_feed := goodIn_r _ [223, 41, 16, 224, 147, 148, 2, 149, 169, 170, 171, 172, 42, 21, 98, 99, 100, 20, 101, 102, 62, 103, 104, 105, 106, 63, 64, 65, 66, 107, 56, 57, 58, 606, 607, 608, 609, 610, 611, 612, 613, 614, 615, 616, 654, 655, 656, 657, 658, 659, 660, 661, 662, 663, 664, 665, 666, 667] (by decide +kernel) (by decide +kernel)
set_option maxRecDepth 20000 in
theorem gL_law_X6_feed : GoodIn wsL_law (wsV RL 46 RX6 yX6_feed wsX6_feed) := goodIn_app (goodIn_of _ (by decide +kernel)) ggL_law_X6_feed
set_option maxRecDepth 20000 in
theorem ggL_law_X7_feed : GoodIn wsL_law wsX7_feed := goodIn_r _ [228, 154, 178, 118, 155, 156, 157, 5, 158, 617, 618, 619, 620, 621, 622, 623, 624, 625, 626, 627, 628, 629, 630, 631, 632, 633, 634, 635, 636, 637, 638, 639, 640, 641, 642, 643, 644, 645, 646, 647, 648, 649, 650, 651, 652, 653] (by decide +kernel) (by decide +kernel)
set_option maxRecDepth 20000 in
theorem gL_law_X7_feed : GoodIn wsL_law (wsV RL 49 RX7 yX7_feed wsX7_feed) := goodIn_app (goodIn_of _ (by decide +kernel)) ggL_law_X7_feed
set_option maxRecDepth 20000 in
theorem ggL_law_X6_number : GoodIn wsL_law wsX6_number := goodIn_r _ [232, 41, 16, 233, 147, 148, 2, 149, 169, 170, 171, 172, 42, 21, 98, 99, 100, 20, 101, 102, 62, 103, 104, 105, 106, 63, 64, 65, 66, 107, 56, 57, 58, 606, 607, 608, 609, 610, 611, 612, 613, 614, 615, 616, 654, 655, 656, 657, 658, 659, 660, 661, 662, 663, 664, 665, 666, 667] (by decide +kernel) (by decide +kernel)
set_option maxRecDepth 20000 in
theorem gL_law_X6_number : GoodIn wsL_law (wsV RL 50 RX6 yX6_number wsX6_number) := goodIn_app (goodIn_of _ (by decide +kernel)) ggL_law_X6_number
set_option maxRecDepth 20000 in
theorem ggL_law_X7_number : GoodIn wsL_law wsX7_number := goodIn_r _ [237, 154, 178, 119, 155, 156, 157, 5, 158, 617, 618, 619, 620, 621, 622, 623, 624, 625, 626, 627, 628, 629, 630, 631, 632, 633, 634, 635, 636, 637, 638, 639, 640, 641, 642, 643, 644, 645, 646, 647, 648, 649, 650, 651, 652, 653] (by decide +kernel) (by decide +kernel)
set_option maxRecDepth 20000 in
theorem gL_law_X7_number : GoodIn wsL_law (wsV RL 53 RX7 yX7_number wsX7_number) := goodIn_app (goodIn_of _ (by decide +kernel)) ggL_law_X7_number
set_option maxRecDepth 20000 in
theorem ggL_law_X6_wave : GoodIn wsL_law wsX6_wave := goodIn_r _ [241, 26, 242, 42, 147, 148, 2, 149, 243, 244, 245, 25, 246, 71, 72, 73, 606, 607, 608, 609, 610, 611, 612, 613, 614, 615, 616, 668, 669, 670] (by decide +kernel) (by decide +kernel)
set_option maxRecDepth 20000 in
theorem gL_law_X6_wave : GoodIn wsL_law (wsV RL 54 RX6 yX6_wave wsX6_wave) := goodIn_app (goodIn_of _ (by decide +kernel)) ggL_law_X6_wave
set_option maxRecDepth 20000 in
theorem ggL_law_X7_wave : GoodIn wsL_law wsX7_wave := goodIn_r _ [250, 154, 251, 120, 121, 155, 156, 157, 5, 158, 617, 618, 619, 620, 621, 622, 623, 624, 625, 626, 627, 628, 629, 630, 631, 632, 633, 634, 635, 636, 637, 638, 639, 640, 641, 642, 643, 644, 645, 646, 647, 648, 649, 650, 651, 652, 653] (by decide +kernel) (by decide +kernel)
set_option maxRecDepth 20000 in
theorem gL_law_X7_wave : GoodIn wsL_law (wsV RL 58 RX7 yX7_wave wsX7_wave) := goodIn_app (goodIn_of _ (by decide +kernel)) ggL_law_X7_wave
set_option maxRecDepth 20000 in
theorem ggL_law_X6_weeks : GoodIn wsL_law wsX6_weeks := goodIn_r _ [255, 26, 242, 41, 21, 16, 256, 257, 147, 148, 2, 149, 258, 259, 260, 20, 261, 66, 67, 262, 107, 56, 57, 58, 263, 264, 265, 266, 267, 268, 269, 270, 271, 272, 273, 274, 275, 276, 277, 278, 279, 65, 280, 281, 282, 283, 284, 285, 286, 287, 288, 289, 290, 62, 291, 292, 293, 294, 64, 295, 296, 297, 298, 299, 300, 301, 302, 303, 304, 305, 306, 307, 308, 309, 310, 311, 312, 63, 313, 314, 315, 316, 606, 607, 608, 609, 610, 611, 612, 613, 614, 615, 616, 668, 669, 670, 662, 663, 664, 665, 666, 667, 654, 655, 656, 657, 658, 659, 660, 661] (by decide +kernel) (by decide +kernel)
set_option maxRecDepth 20000 in
theorem gL_law_X6_weeks : GoodIn wsL_law (wsV RL 59 RX6 yX6_weeks wsX6_weeks) := goodIn_app (goodIn_of _ (by decide +kernel)) ggL_law_X6_weeks
set_option maxRecDepth 20000 in
theorem ggL_law_X7_weeks : GoodIn wsL_law wsX7_weeks := goodIn_r _ [320, 154, 178, 251, 156, 157, 5, 158, 617, 618, 619, 620, 621, 622, 623, 624, 625, 626, 627, 628, 629, 630, 631, 632, 633, 634, 635, 636, 637, 638, 639, 640, 641, 642, 643, 644, 645, 646, 647, 648, 649, 650, 651, 652, 653] (by decide +kernel) (by decide +kernel)
set_option maxRecDepth 20000 in
theorem gL_law_X7_weeks : GoodIn wsL_law (wsV RL 62 RX7 yX7_weeks wsX7_weeks) := goodIn_app (goodIn_of _ (by decide +kernel)) ggL_law_X7_weeks
set_option maxRecDepth 20000 in
theorem ggL_law_X6_dredge : GoodIn wsL_law wsX6_dredge := goodIn_r _ [324, 16, 30, 325, 41, 21, 326, 327, 328, 15, 329, 52, 330, 188, 189, 190, 47, 165, 166, 167, 168, 147, 148, 2, 149, 331, 332, 333, 29, 334, 77, 78, 79, 80, 81, 335, 336, 337, 20, 338, 65, 284, 285, 275, 286, 62, 308, 606, 607, 608, 609, 610, 611, 612, 613, 614, 615, 616, 671, 672, 673, 674, 675, 654, 655, 656, 657, 658, 659, 660, 661, 662, 663, 664, 665, 666, 667] (by decide +kernel) (by decide +kernel)
set_option maxRecDepth 20000 in
theorem gL_law_X6_dredge : GoodIn wsL_law (wsV RL 63 RX6 yX6_dredge wsX6_dredge) := goodIn_app (goodIn_of _ (by decide +kernel)) ggL_law_X6_dredge
