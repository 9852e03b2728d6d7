set_option maxRecDepth 20000 in
theorem ggL_law_X7_dredge : GoodIn wsL_law wsX7_dredge := goodIn_r _ [342, 154, 114, 343, 178, 122, 123, 124, 125, 155, 129, 199, 200, 201, 5, 202, 112, 156, 157, 158, 179, 180, 181, 182, 344, 345, 346, 347, 119, 348, 349, 350, 351, 126, 113, 127, 128, 130, 131, 115, 352, 353, 354, 355, 356, 357, 358, 359, 177, 360, 361, 362, 363, 120, 121, 364, 365, 366, 367, 132, 116, 118, 368, 369, 370, 371, 372, 373, 374, 375, 376, 377, 378, 379, 117, 617, 618, 619, 620, 621, 622, 623, 624, 625, 626, 627, 628, 629, 630, 631, 632, 633, 634, 635, 636, 637, 638, 639, 640, 641, 642, 643, 644, 645, 646, 647, 648, 649, 650, 651, 652, 653] (by decide +kernel) (by decide +kernel)
set_option maxRecDepth 20000 in
theorem gL_law_X7_dredge : GoodIn wsL_law (wsV RL 66 RX7 yX7_dredge wsX7_dredge) := goodIn_app (goodIn_of _ (by decide +kernel)) ggL_law_X7_dredge
set_option maxRecDepth 20000 in
theorem ggL_law_L_line : GoodIn wsL_law wsL_line := goodIn_ca (goodIn_r _ [383, 384, 385, 386, 387, 2, 388, 389, 390, 16, 21, 165, 166, 167, 15, 168, 47, 391, 288, 289, 20, 290, 62, 606, 607, 608, 609, 610, 611, 612, 613, 614, 615, 616, 654, 655, 656, 657, 658, 659, 660, 661, 662, 663, 664, 665, 666, 667] (by decide +kernel) (by decide +kernel)) (goodIn_sub (fun _ h => List.mem_append_right _ h) (by decide +kernel))
set_option maxRecDepth 20000 in
theorem gL_law_L_line : GoodIn wsL_law (va_wsS RL 67 yL_line wsL_line) := goodIn_app (goodIn_of _ (by decide +kernel)) ggL_law_L_line
set_option maxRecDepth 20000 in
theorem ggL_law_X7_line : GoodIn wsL_law wsX7_line := goodIn_r _ [395, 154, 178, 126, 179, 180, 181, 5, 182, 112, 156, 157, 158, 344, 345, 346, 347, 343, 119, 348, 349, 350, 351, 113, 127, 128, 129, 130, 131, 114, 115, 352, 353, 354, 355, 125, 122, 123, 124, 356, 357, 358, 359, 177, 360, 361, 362, 363, 120, 121, 364, 365, 366, 367, 132, 116, 118, 368, 369, 370, 371, 372, 373, 374, 375, 376, 377, 378, 379, 117, 617, 618, 619, 620, 621, 622, 623, 624, 625, 626, 627, 628, 629, 630, 631, 632, 633, 634, 635, 636, 637, 638, 639, 640, 641, 642, 643, 644, 645, 646, 647, 648, 649, 650, 651, 652, 653] (by decide +kernel) (by decide +kernel)
set_option maxRecDepth 20000 in
theorem gL_law_X7_line : GoodIn wsL_law (wsV RL 72 RX7 yX7_line wsX7_line) := goodIn_app (goodIn_of _ (by decide +kernel)) ggL_law_X7_line
set_option maxRecDepth 20000 in
theorem ggL_law_X7_thrown : GoodIn wsL_law wsX7_thrown := goodIn_r _ [399, 154, 617, 618, 619, 620, 621, 622, 623, 624, 625, 626, 627, 628, 629, 630, 631, 632, 633, 634, 635, 636, 637, 638, 639, 640, 641, 642, 643, 644, 645, 646, 647, 648, 649, 650, 651, 652, 653] (by decide +kernel) (by decide +kernel)
set_option maxRecDepth 20000 in
theorem gL_law_X7_thrown : GoodIn wsL_law (wsV RL 73 RX7 yX7_thrown wsX7_thrown) := goodIn_app (goodIn_of _ (by decide +kernel)) ggL_law_X7_thrown
set_option maxRecDepth 20000 in
theorem ggL_law_X6_look : GoodIn wsL_law wsX6_look := goodIn_r _ [403, 16, 21, 404, 405, 406, 165, 166, 167, 15, 168, 47, 606, 607, 608, 609, 610, 611, 612, 613, 614, 615, 616, 662, 663, 664, 665, 666, 667, 654, 655, 656, 657, 658, 659, 660, 661] (by decide +kernel) (by decide +kernel)
set_option maxRecDepth 20000 in
theorem gL_law_X6_look : GoodIn wsL_law (wsV RL 77 RX6 yX6_look wsX6_look) := goodIn_app (goodIn_of _ (by decide +kernel)) ggL_law_X6_look
set_option maxRecDepth 20000 in
theorem ggL_law_X7_look : GoodIn wsL_law wsX7_look := goodIn_r _ [410, 154, 178, 126, 127, 128, 179, 180, 181, 5, 182, 112, 156, 157, 158, 344, 345, 346, 347, 343, 119, 348, 349, 350, 351, 113, 129, 130, 131, 114, 115, 352, 353, 354, 355, 125, 122, 123, 124, 356, 357, 358, 359, 177, 360, 361, 362, 363, 120, 121, 364, 365, 366, 367, 132, 116, 118, 368, 369, 370, 371, 372, 373, 374, 375, 376, 377, 378, 379, 117, 617, 618, 619, 620, 621, 622, 623, 624, 625, 626, 627, 628, 629, 630, 631, 632, 633, 634, 635, 636, 637, 638, 639, 640, 641, 642, 643, 644, 645, 646, 647, 648, 649, 650, 651, 652, 653] (by decide +kernel) (by decide +kernel)
set_option maxRecDepth 20000 in
theorem gL_law_X7_look : GoodIn wsL_law (wsV RL 80 RX7 yX7_look wsX7_look) := goodIn_app (goodIn_of _ (by decide +kernel)) ggL_law_X7_look
set_option maxRecDepth 20000 in
theorem ggL_law_X6_border : GoodIn wsL_law wsX6_border := goodIn_r _ [414, 16, 415, 416, 417, 21, 418, 419, 420, 421, 422, 423, 15, 424, 47, 606, 607, 608, 609, 610, 611, 612, 613, 614, 615, 616, 654, 655, 656, 657, 658, 659, 660, 661, 662, 663, 664, 665, 666, 667] (by decide +kernel) (by decide +kernel)
set_option maxRecDepth 20000 in
theorem gL_law_X6_border : GoodIn wsL_law (wsV RL 81 RX6 yX6_border wsX6_border) := goodIn_app (goodIn_of _ (by decide +kernel)) ggL_law_X6_border
set_option maxRecDepth 20000 in
theorem ggL_law_X7_border : GoodIn wsL_law wsX7_border := goodIn_r _ [428, 154, 112, 429, 178, 114, 130, 115, 116, 129, 156, 157, 5, 158, 344, 345, 346, 347, 343, 119, 348, 349, 350, 351, 126, 113, 127, 128, 131, 352, 353, 354, 355, 125, 122, 123, 124, 356, 357, 358, 359, 177, 360, 361, 362, 363, 120, 121, 364, 365, 366, 367, 132, 118, 368, 369, 370, 371, 372, 373, 374, 375, 376, 377, 378, 379, 117, 617, 618, 619, 620, 621, 622, 623, 624, 625, 626, 627, 628, 629, 630, 631, 632, 633, 634, 635, 636, 637, 638, 639, 640, 641, 642, 643, 644, 645, 646, 647, 648, 649, 650, 651, 652, 653] (by decide +kernel) (by decide +kernel)
set_option maxRecDepth 20000 in
theorem gL_law_X7_border : GoodIn wsL_law (wsV RL 84 RX7 yX7_border wsX7_border) := goodIn_app (goodIn_of _ (by decide +kernel)) ggL_law_X7_border
set_option maxRecDepth 20000 in
theorem ggL_law_X6_without : GoodIn wsL_law wsX6_without := goodIn_r _ [433, 16, 165, 166, 167, 15, 168, 47, 434, 435, 436, 437, 52, 438, 439, 440, 2, 441, 17, 22, 41, 442, 443, 444, 445, 48, 49, 446, 104, 105, 106, 50, 51, 53, 54, 447, 448, 449, 450, 451, 192, 193, 194, 98, 99, 100, 20, 101, 102, 62, 103, 63, 64, 65, 66, 107, 56, 57, 58, 452, 453, 454, 455, 26, 256, 257, 30, 258, 259, 260, 261, 67, 262, 263, 264, 265, 266, 267, 268, 269, 270, 271, 272, 273, 274, 275, 276, 277, 278, 279, 280, 281, 282, 283, 284, 285, 286, 287, 288, 289, 290, 291, 292, 293, 294, 295, 296, 297, 298, 299, 300, 301, 302, 303, 304, 305, 306, 307, 308, 309, 310, 311, 312, 313, 314, 315, 316, 456, 457, 458, 29, 459, 77, 81, 78, 79, 80, 460, 336, 337, 338, 391, 606, 607, 608, 609, 610, 611, 612, 613, 614, 615, 616, 654, 655, 656, 657, 658, 659, 660, 661, 662, 663, 664, 665, 666, 667, 668, 669, 670, 671, 672, 673, 674, 675] (by decide +kernel) (by decide +kernel)
set_option maxRecDepth 20000 in
theorem gL_law_X6_without : GoodIn wsL_law (wsV RL 85 RX6 yX6_without wsX6_without) := goodIn_app (goodIn_of _ (by decide +kernel)) ggL_law_X6_without
set_option maxRecDepth 20000 in
theorem ggL_law_X7_without : GoodIn wsL_law wsX7_without := goodIn_r _ [464, 154, 179, 180, 181, 5, 182, 112, 156, 157, 158, 465, 466, 467, 468, 114, 199, 200, 201, 202, 469, 470, 471, 472, 178, 126, 344, 345, 346, 347, 343, 119, 348, 349, 350, 351, 113, 127, 128, 129, 130, 131, 115, 352, 353, 354, 355, 125, 122, 123, 124, 356, 357, 358, 359, 177, 360, 361, 362, 363, 120, 121, 364, 365, 366, 367, 132, 116, 118, 368, 369, 370, 371, 372, 373, 374, 375, 376, 377, 378, 379, 117, 617, 618, 619, 620, 621, 622, 623, 624, 625, 626, 627, 628, 629, 630, 631, 632, 633, 634, 635, 636, 637, 638, 639, 640, 641, 642, 643, 644, 645, 646, 647, 648, 649, 650, 651, 652, 653] (by decide +kernel) (by decide +kernel)
set_option maxRecDepth 20000 in
theorem gL_law_X7_without : GoodIn wsL_law (wsV RL 88 RX7 yX7_without wsX7_without) := goodIn_app (goodIn_of _ (by decide +kernel)) ggL_law_X7_without
set_option maxRecDepth 20000 in
theorem ggL_law_L_share : GoodIn wsL_law wsL_share := goodIn_ca (goodIn_r _ [475, 384, 476, 477, 478, 2, 479, 389, 390, 16, 165, 166, 167, 15, 168, 47, 434, 435, 436, 437, 52, 480, 481, 482, 483, 484, 485, 486, 421, 422, 423, 424, 487, 488, 489, 438, 439, 440, 441, 17, 22, 41, 442, 443, 444, 445, 48, 49, 446, 104, 105, 106, 50, 51, 53, 54, 447, 448, 449, 450, 451, 192, 193, 194, 98, 99, 100, 20, 101, 102, 62, 103, 63, 64, 65, 66, 107, 56, 57, 58, 452, 453, 454, 455, 26, 256, 257, 30, 258, 259, 260, 261, 67, 262, 263, 264, 265, 266, 267, 268, 269, 270, 271, 272, 273, 274, 275, 276, 277, 278, 279, 280, 281, 282, 283, 284, 285, 286, 287, 288, 289, 290, 291, 292, 293, 294, 295, 296, 297, 298, 299, 300, 301, 302, 303, 304, 305, 306, 307, 308, 309, 310, 311, 312, 313, 314, 315, 316, 456, 457, 458, 29, 459, 77, 81, 78, 79, 80, 460, 336, 337, 338, 391, 606, 607, 608, 609, 610, 611, 612, 613, 614, 615, 616, 654, 655, 656, 657, 658, 659, 660, 661, 662, 663, 664, 665, 666, 667, 668, 669, 670, 671, 672, 673, 674, 675] (by decide +kernel) (by decide +kernel)) (goodIn_sub (fun _ h => List.mem_append_right _ h) (by decide +kernel))
set_option maxRecDepth 20000 in
theorem gL_law_L_share : GoodIn wsL_law (va_wsS RL 89 yL_share wsL_share) := goodIn_app (goodIn_of _ (by decide +kernel)) ggL_law_L_share
set_option maxRecDepth 20000 in
theorem ggL_law_X7_share : GoodIn wsL_law wsX7_share := goodIn_r _ [493, 154, 179, 180, 181, 5, 182, 112, 156, 157, 158, 465, 466, 467, 468, 114, 199, 200, 201, 202, 494, 495, 496, 497, 498, 499, 469, 470, 471, 472, 178, 126, 344, 345, 346, 347, 343, 119, 348, 349, 350, 351, 113, 127, 128, 129, 130, 131, 115, 352, 353, 354, 355, 125, 122, 123, 124, 356, 357, 358, 359, 177, 360, 361, 362, 363, 120, 121, 364, 365, 366, 367, 132, 116, 118, 368, 369, 370, 371, 372, 373, 374, 375, 376, 377, 378, 379, 117, 617, 618, 619, 620, 621, 622, 623, 624, 625, 626, 627, 628, 629, 630, 631, 632, 633, 634, 635, 636, 637, 638, 639, 640, 641, 642, 643, 644, 645, 646, 647, 648, 649, 650, 651, 652, 653] (by decide +kernel) (by decide +kernel)
set_option maxRecDepth 20000 in
theorem gL_law_X7_share : GoodIn wsL_law (wsV RL 92 RX7 yX7_share wsX7_share) := goodIn_app (goodIn_of _ (by decide +kernel)) ggL_law_X7_share
set_option maxRecDepth 20000 in
theorem ggL_law_X6_work : GoodIn wsL_law wsX6_work := goodIn_r _ [503, 34, 504, 16, 42, 147, 148, 2, 149, 165, 166, 167, 15, 168, 47, 326, 327, 328, 329, 52, 330, 188, 189, 190, 505, 506, 507, 33, 508, 85, 86, 87, 88, 89, 606, 607, 608, 609, 610, 611, 612, 613, 614, 615, 616, 676, 677, 678, 679, 680, 654, 655, 656, 657, 658, 659, 660, 661] (by decide +kernel) (by decide +kernel)
set_option maxRecDepth 20000 in
theorem gL_law_X6_work : GoodIn wsL_law (wsV RL 93 RX6 yX6_work wsX6_work) := goodIn_app (goodIn_of _ (by decide +kernel)) ggL_law_X6_work
set_option maxRecDepth 20000 in
theorem ggL_law_X7_work : GoodIn wsL_law wsX7_work := goodIn_r _ [512, 154, 114, 513, 133, 134, 135, 136, 155, 179, 180, 181, 5, 182, 112, 156, 157, 158, 199, 200, 201, 202, 617, 618, 619, 620, 621, 622, 623, 624, 625, 626, 627, 628, 629, 630, 631, 632, 633, 634, 635, 636, 637, 638, 639, 640, 641, 642, 643, 644, 645, 646, 647, 648, 649, 650, 651, 652, 653] (by decide +kernel) (by decide +kernel)
set_option maxRecDepth 20000 in
theorem gL_law_X7_work : GoodIn wsL_law (wsV RL 97 RX7 yX7_work wsX7_work) := goodIn_app (goodIn_of _ (by decide +kernel)) ggL_law_X7_work
set_option maxRecDepth 20000 in
theorem ggL_law_X6_mark : GoodIn wsL_law wsX6_mark := goodIn_r _ [517, 16, 40, 42, 165, 166, 167, 15, 168, 47, 147, 148, 2, 149, 606, 607, 608, 609, 610, 611, 612, 613, 614, 615, 616, 654, 655, 656, 657, 658, 659, 660, 661] (by decide +kernel) (by decide +kernel)
set_option maxRecDepth 20000 in
theorem gL_law_X6_mark : GoodIn wsL_law (wsV RL 98 RX6 yX6_mark wsX6_mark) := goodIn_app (goodIn_of _ (by decide +kernel)) ggL_law_X6_mark
set_option maxRecDepth 20000 in
theorem ggL_law_X7_mark : GoodIn wsL_law wsX7_mark := goodIn_r _ [521, 154, 137, 155, 179, 180, 181, 5, 182, 112, 156, 157, 158, 617, 618, 619, 620, 621, 622, 623, 624, 625, 626, 627, 628, 629, 630, 631, 632, 633, 634, 635, 636, 637, 638, 639, 640, 641, 642, 643, 644, 645, 646, 647, 648, 649, 650, 651, 652, 653] (by decide +kernel) (by decide +kernel)
set_option maxRecDepth 20000 in
theorem gL_law_X7_mark : GoodIn wsL_law (wsV RL 101 RX7 yX7_mark wsX7_mark) := goodIn_app (goodIn_of _ (by decide +kernel)) ggL_law_X7_mark
set_option maxRecDepth 20000 in
theorem ggL_law_X6_works : GoodIn wsL_law wsX6_works := goodIn_r _ [525, 34, 504, 526, 527, 528, 33, 529, 85, 89, 530, 531, 532, 2, 533, 17, 16, 22, 26, 242, 146, 40, 442, 443, 444, 15, 445, 47, 48, 49, 446, 104, 105, 106, 50, 51, 52, 53, 54, 534, 535, 536, 537, 538, 539, 540, 541, 87, 86, 542, 88, 543, 544, 285, 275, 286, 545, 546, 327, 328, 329, 330, 188, 189, 190, 98, 99, 100, 20, 101, 102, 62, 103, 63, 64, 65, 66, 107, 56, 57, 58, 452, 453, 454, 455, 256, 257, 30, 258, 259, 260, 261, 67, 262, 263, 264, 265, 266, 267, 268, 269, 270, 271, 272, 273, 274, 276, 277, 278, 279, 280, 281, 282, 283, 284, 287, 288, 289, 290, 291, 292, 293, 294, 295, 296, 297, 298, 299, 300, 301, 302, 303, 304, 305, 306, 307, 308, 309, 310, 311, 312, 313, 314, 315, 316, 456, 457, 458, 29, 459, 77, 81, 78, 79, 80, 460, 336, 337, 338, 391, 606, 607, 608, 609, 610, 611, 612, 613, 614, 615, 616, 676, 677, 678, 679, 680, 668, 669, 670, 654, 655, 656, 657, 658, 659, 660, 661, 662, 663, 664, 665, 666, 667, 671, 672, 673, 674, 675] (by decide +kernel) (by decide +kernel)
set_option maxRecDepth 20000 in
theorem gL_law_X6_works : GoodIn wsL_law (wsV RL 102 RX6 yX6_works wsX6_works) := goodIn_app (goodIn_of _ (by decide +kernel)) ggL_law_X6_works
set_option maxRecDepth 20000 in
theorem ggL_law_X7_works : GoodIn wsL_law wsX7_works := goodIn_r _ [550, 154, 513, 136, 551, 552, 553, 5, 554, 133, 134, 135, 131, 343, 251, 119, 112, 126, 137, 348, 349, 350, 351, 113, 127, 128, 129, 130, 114, 115, 356, 357, 358, 359, 177, 352, 353, 354, 355, 125, 122, 123, 124, 360, 361, 362, 363, 120, 121, 364, 365, 366, 367, 132, 116, 118, 368, 369, 370, 371, 372, 373, 374, 375, 376, 377, 378, 379, 117, 617, 618, 619, 620, 621, 622, 623, 624, 625, 626, 627, 628, 629, 630, 631, 632, 633, 634, 635, 636, 637, 638, 639, 640, 641, 642, 643, 644, 645, 646, 647, 648, 649, 650, 651, 652, 653] (by decide +kernel) (by decide +kernel)
set_option maxRecDepth 20000 in
theorem gL_law_X7_works : GoodIn wsL_law (wsV RL 105 RX7 yX7_works wsX7_works) := goodIn_app (goodIn_of _ (by decide +kernel)) ggL_law_X7_works
set_option maxRecDepth 20000 in
theorem ggL_law_X6_survey : GoodIn wsL_law wsX6_survey := goodIn_r _ [558, 16, 38, 559, 42, 165, 166, 167, 15, 168, 47, 147, 148, 2, 149, 560, 561, 562, 37, 563, 93, 94, 95, 96, 97, 606, 607, 608, 609, 610, 611, 612, 613, 614, 615, 616, 681, 682, 683, 684, 685, 654, 655, 656, 657, 658, 659, 660, 661] (by decide +kernel) (by decide +kernel)
set_option maxRecDepth 20000 in
theorem gL_law_X6_survey : GoodIn wsL_law (wsV RL 106 RX6 yX6_survey wsX6_survey) := goodIn_app (goodIn_of _ (by decide +kernel)) ggL_law_X6_survey
set_option maxRecDepth 20000 in
theorem ggL_law_X7_survey : GoodIn wsL_law wsX7_survey := goodIn_r _ [567, 154, 568, 138, 139, 140, 141, 155, 179, 180, 181, 5, 182, 112, 156, 157, 158, 617, 618, 619, 620, 621, 622, 623, 624, 625, 626, 627, 628, 629, 630, 631, 632, 633, 634, 635, 636, 637, 638, 639, 640, 641, 642, 643, 644, 645, 646, 647, 648, 649, 650, 651, 652, 653] (by decide +kernel) (by decide +kernel)
set_option maxRecDepth 20000 in
theorem gL_law_X7_survey : GoodIn wsL_law (wsV RL 109 RX7 yX7_survey wsX7_survey) := goodIn_app (goodIn_of _ (by decide +kernel)) ggL_law_X7_survey
set_option maxRecDepth 20000 in
theorem ggL_law_X6_fits : GoodIn wsL_law wsX6_fits := goodIn_r _ [572, 573, 574, 575, 2, 576, 17, 16, 233, 22, 26, 242, 38, 442, 443, 444, 15, 445, 47, 48, 49, 446, 104, 105, 106, 50, 51, 52, 53, 54, 98, 99, 100, 20, 101, 102, 62, 103, 63, 64, 65, 66, 107, 56, 57, 58, 452, 453, 454, 455, 256, 257, 30, 258, 259, 260, 261, 67, 262, 263, 264, 265, 266, 267, 268, 269, 270, 271, 272, 273, 274, 275, 276, 277, 278, 279, 280, 281, 282, 283, 284, 285, 286, 287, 288, 289, 290, 291, 292, 293, 294, 295, 296, 297, 298, 299, 300, 301, 302, 303, 304, 305, 306, 307, 308, 309, 310, 311, 312, 313, 314, 315, 316, 456, 457, 458, 29, 459, 77, 81, 78, 79, 80, 460, 336, 337, 338, 577, 578, 579, 37, 580, 93, 95, 94, 96, 97, 581, 606, 607, 608, 609, 610, 611, 612, 613, 614, 615, 616, 654, 655, 656, 657, 658, 659, 660, 661, 668, 669, 670, 662, 663, 664, 665, 666, 667, 671, 672, 673, 674, 675, 681, 682, 683, 684, 685] (by decide +kernel) (by decide +kernel)
set_option maxRecDepth 20000 in
theorem gL_law_X6_fits : GoodIn wsL_law (wsV RL 110 RX6 yX6_fits wsX6_fits) := goodIn_app (goodIn_of _ (by decide +kernel)) ggL_law_X6_fits
set_option maxRecDepth 20000 in
theorem ggL_law_X7_fits : GoodIn wsL_law wsX7_fits := goodIn_r _ [585, 154, 343, 251, 348, 349, 350, 5, 351, 126, 113, 127, 128, 129, 130, 131, 114, 115, 352, 353, 354, 355, 125, 122, 123, 124, 356, 357, 358, 359, 177, 360, 361, 362, 363, 120, 121, 112, 364, 365, 366, 367, 132, 116, 118, 368, 369, 370, 371, 372, 373, 374, 375, 376, 377, 378, 379, 117, 586, 587, 588, 589, 568, 139, 138, 140, 141, 156, 157, 158, 617, 618, 619, 620, 621, 622, 623, 624, 625, 626, 627, 628, 629, 630, 631, 632, 633, 634, 635, 636, 637, 638, 639, 640, 641, 642, 643, 644, 645, 646, 647, 648, 649, 650, 651, 652, 653] (by decide +kernel) (by decide +kernel)
set_option maxRecDepth 20000 in
theorem gL_law_X7_fits : GoodIn wsL_law (wsV RL 113 RX7 yX7_fits wsX7_fits) := goodIn_app (goodIn_of _ (by decide +kernel)) ggL_law_X7_fits
set_option maxRecDepth 20000 in
theorem ggL_law_X6_count : GoodIn wsL_law wsX6_count := goodIn_r _ [593, 16, 146, 26, 242, 41, 34, 504, 38, 559, 30, 325, 21, 594, 595, 596, 20, 597, 62, 63, 65, 606, 607, 608, 609, 610, 611, 612, 613, 614, 615, 616, 654, 655, 656, 657, 658, 659, 660, 661, 668, 669, 670, 676, 677, 678, 679, 680, 681, 682, 683, 684, 685, 671, 672, 673, 674, 675, 662, 663, 664, 665, 666, 667] (by decide +kernel) (by decide +kernel)
set_option maxRecDepth 20000 in
theorem gL_law_X6_count : GoodIn wsL_law (wsV RL 114 RX6 yX6_count wsX6_count) := goodIn_app (goodIn_of _ (by decide +kernel)) ggL_law_X6_count
set_option maxRecDepth 20000 in
theorem ggL_law_X7_count : GoodIn wsL_law wsX7_count := goodIn_r _ [601, 154, 112, 251, 178, 513, 568, 343, 602, 603, 604, 5, 605, 126, 127, 129, 344, 345, 346, 347, 119, 348, 349, 350, 351, 113, 128, 130, 131, 114, 115, 352, 353, 354, 355, 125, 122, 123, 124, 356, 357, 358, 359, 177, 360, 361, 362, 363, 120, 121, 364, 365, 366, 367, 132, 116, 118, 368, 369, 370, 371, 372, 373, 374, 375, 376, 377, 378, 379, 117, 617, 618, 619, 620, 621, 622, 623, 624, 625, 626, 627, 628, 629, 630, 631, 632, 633, 634, 635, 636, 637, 638, 639, 640, 641, 642, 643, 644, 645, 646, 647, 648, 649, 650, 651, 652, 653] (by decide +kernel) (by decide +kernel)
set_option maxRecDepth 20000 in
theorem gL_law_X7_count : GoodIn wsL_law (wsV RL 117 RX7 yX7_count wsX7_count) := goodIn_app (goodIn_of _ (by decide +kernel)) ggL_law_X7_count
