set_option maxRecDepth 20000 in
theorem ggL_law_X8_at : GoodIn wsL_law wsX8_at := goodIn_r _ [474, 15, 475, 476, 2, 477, 120, 121, 122, 34, 123, 73, 386, 211, 212, 213, 53, 214, 215, 216, 217, 860, 861, 862, 863, 875, 876, 877, 878, 879, 880, 881, 882, 883, 895, 896] (by decide +kernel) (by decide +kernel)
set_option maxRecDepth 20000 in
theorem gL_law_X8_at : GoodIn wsL_law (wsV RL 61 RX8 yX8_at wsX8_at) := goodIn_app (goodIn_of _ (by decide +kernel)) ggL_law_X8_at
set_option maxRecDepth 20000 in
theorem ggL_law_X9_at : GoodIn wsL_law wsX9_at := goodIn_r _ [481, 105, 864, 865, 866, 867, 868, 869, 870, 871, 872, 873, 874] (by decide +kernel) (by decide +kernel)
set_option maxRecDepth 20000 in
theorem gL_law_X9_at : GoodIn wsL_law (wsV RL 64 RX9 yX9_at wsX9_at) := goodIn_app (goodIn_of _ (by decide +kernel)) ggL_law_X9_at
set_option maxRecDepth 20000 in
theorem ggL_law_X8_mark : GoodIn wsL_law wsX8_mark := goodIn_r _ [485, 15, 486, 487, 488, 40, 489, 58, 333, 121, 122, 34, 123, 73, 118, 2, 119, 117, 386, 211, 212, 213, 53, 214, 215, 216, 217, 490, 443, 444, 445, 300, 342, 343, 344, 345, 346, 347, 348, 349, 350, 351, 352, 353, 354, 355, 356, 357, 491, 492, 493, 494, 59, 338, 339, 340, 341, 387, 388, 389, 390, 391, 392, 393, 394, 395, 860, 861, 862, 863, 875, 876, 877, 878, 879, 880, 881, 882, 883, 897, 898, 899, 900, 895, 896] (by decide +kernel) (by decide +kernel)
set_option maxRecDepth 20000 in
theorem gL_law_X8_mark : GoodIn wsL_law (wsV RL 65 RX8 yX8_mark wsX8_mark) := goodIn_app (goodIn_of _ (by decide +kernel)) ggL_law_X8_mark
set_option maxRecDepth 20000 in
theorem ggL_law_X9_mark : GoodIn wsL_law wsX9_mark := goodIn_r _ [498, 499, 500, 501, 5, 502, 105, 167, 168, 169, 503, 504, 505, 506, 318, 319, 320, 507, 508, 509, 510, 463, 464, 465, 466, 370, 371, 372, 373, 321, 322, 323, 324, 374, 375, 376, 377, 378, 379, 380, 381, 366, 367, 368, 369, 401, 402, 403, 404, 864, 865, 866, 867, 868, 869, 870, 871, 872, 873, 874] (by decide +kernel) (by decide +kernel)
set_option maxRecDepth 20000 in
theorem gL_law_X9_mark : GoodIn wsL_law (wsV RL 68 RX9 yX9_mark wsX9_mark) := goodIn_app (goodIn_of _ (by decide +kernel)) ggL_law_X9_mark
set_option maxRecDepth 20000 in
theorem ggL_law_X8_answer : GoodIn wsL_law wsX8_answer := goodIn_r _ [514, 15, 19, 486, 487, 488, 40, 489, 58, 333, 121, 122, 34, 123, 73, 118, 2, 119, 117, 386, 211, 212, 213, 53, 214, 215, 216, 217, 491, 492, 493, 494, 59, 300, 338, 339, 340, 341, 342, 343, 344, 345, 346, 347, 348, 349, 350, 351, 352, 353, 354, 355, 356, 357, 124, 125, 126, 18, 127, 128, 83, 129, 130, 131, 132, 133, 134, 135, 14, 136, 35, 41, 42, 43, 44, 45, 137, 138, 139, 140, 141, 142, 143, 144, 145, 146, 60, 61, 147, 148, 149, 150, 151, 37, 152, 153, 154, 155, 156, 157, 47, 158, 159, 160, 67, 161, 515, 516, 517, 518, 519, 219, 220, 221, 206, 207, 208, 209, 210, 218, 437, 430, 431, 432, 860, 861, 862, 863, 875, 876, 877, 878, 879, 880, 881, 882, 883, 897, 898, 899, 900, 895, 896, 884, 885, 901, 902, 903] (by decide +kernel) (by decide +kernel)
set_option maxRecDepth 20000 in
theorem gL_law_X8_answer : GoodIn wsL_law (wsV RL 69 RX8 yX8_answer wsX8_answer) := goodIn_app (goodIn_of _ (by decide +kernel)) ggL_law_X8_answer
set_option maxRecDepth 20000 in
theorem ggL_law_X9_answer : GoodIn wsL_law wsX9_answer := goodIn_r _ [523, 105, 499, 500, 501, 5, 502, 167, 168, 169, 318, 319, 320, 366, 367, 368, 369, 370, 371, 372, 373, 321, 322, 323, 324, 374, 375, 376, 377, 378, 379, 380, 381, 170, 171, 172, 173, 174, 106, 455, 456, 457, 458, 864, 865, 866, 867, 868, 869, 870, 871, 872, 873, 874] (by decide +kernel) (by decide +kernel)
set_option maxRecDepth 20000 in
theorem gL_law_X9_answer : GoodIn wsL_law (wsV RL 72 RX9 yX9_answer wsX9_answer) := goodIn_app (goodIn_of _ (by decide +kernel)) ggL_law_X9_answer
set_option maxRecDepth 20000 in
theorem ggL_law_X8_against : GoodIn wsL_law wsX8_against := goodIn_r _ [527, 15, 486, 487, 488, 40, 489, 58, 333, 121, 122, 34, 123, 73, 118, 2, 119, 386, 211, 212, 213, 53, 214, 215, 216, 217, 528, 343, 344, 345, 346, 347, 348, 349, 350, 351, 352, 353, 354, 355, 356, 357, 860, 861, 862, 863, 875, 876, 877, 878, 879, 880, 881, 882, 883, 897, 898, 899, 900, 895, 896] (by decide +kernel) (by decide +kernel)
set_option maxRecDepth 20000 in
theorem gL_law_X8_against : GoodIn wsL_law (wsV RL 73 RX8 yX8_against wsX8_against) := goodIn_app (goodIn_of _ (by decide +kernel)) ggL_law_X8_against
set_option maxRecDepth 20000 in
theorem ggL_law_X9_against : GoodIn wsL_law wsX9_against := goodIn_r _ [532, 499, 500, 501, 5, 502, 105, 167, 168, 169, 318, 319, 320, 370, 371, 372, 373, 321, 322, 323, 324, 374, 375, 376, 377, 378, 379, 380, 381, 864, 865, 866, 867, 868, 869, 870, 871, 872, 873, 874] (by decide +kernel) (by decide +kernel)
set_option maxRecDepth 20000 in
theorem gL_law_X9_against : GoodIn wsL_law (wsV RL 76 RX9 yX9_against wsX9_against) := goodIn_app (goodIn_of _ (by decide +kernel)) ggL_law_X9_against
set_option maxRecDepth 20000 in
theorem ggL_law_X8_next : GoodIn wsL_law wsX8_next := goodIn_r _ [536, 15, 537, 538, 539, 40, 540, 58, 59, 333, 121, 122, 34, 123, 73, 300, 211, 212, 213, 53, 214, 215, 216, 217, 541, 542, 543, 544, 60, 545, 350, 344, 351, 860, 861, 862, 863, 875, 876, 877, 878, 879, 880, 881, 882, 883, 897, 898, 899, 900, 895, 896] (by decide +kernel) (by decide +kernel)
set_option maxRecDepth 20000 in
theorem gL_law_X8_next : GoodIn wsL_law (wsV RL 77 RX8 yX8_next wsX8_next) := goodIn_app (goodIn_of _ (by decide +kernel)) ggL_law_X8_next
set_option maxRecDepth 20000 in
theorem ggL_law_X9_next : GoodIn wsL_law wsX9_next := goodIn_r _ [549, 105, 318, 319, 5, 320, 864, 865, 866, 867, 868, 869, 870, 871, 872, 873, 874] (by decide +kernel) (by decide +kernel)
set_option maxRecDepth 20000 in
theorem gL_law_X9_next : GoodIn wsL_law (wsV RL 80 RX9 yX9_next wsX9_next) := goodIn_app (goodIn_of _ (by decide +kernel)) ggL_law_X9_next
set_option maxRecDepth 20000 in
theorem ggL_law_X8_finish : GoodIn wsL_law wsX8_finish := goodIn_r _ [553, 15, 19, 27, 554, 555, 556, 14, 557, 137, 41, 558, 434, 435, 436, 138, 148, 149, 150, 151, 37, 429, 430, 431, 40, 432, 59, 333, 121, 122, 34, 123, 73, 300, 211, 212, 213, 53, 214, 215, 216, 217, 124, 125, 126, 18, 127, 128, 83, 129, 130, 131, 132, 133, 134, 135, 136, 35, 42, 43, 44, 45, 139, 140, 141, 142, 143, 144, 145, 146, 58, 60, 61, 147, 152, 153, 154, 155, 156, 157, 47, 158, 159, 160, 67, 161, 559, 560, 561, 26, 562, 96, 97, 99, 563, 564, 70, 71, 72, 74, 75, 76, 77, 565, 566, 567, 568, 569, 570, 571, 350, 344, 351, 572, 347, 348, 573, 356, 357, 574, 219, 220, 221, 575, 394, 395, 576, 577, 578, 118, 2, 119, 579, 203, 204, 205, 580, 581, 582, 583, 584, 585, 586, 587, 588, 425, 426, 427, 428, 285, 206, 207, 208, 209, 210, 218, 589, 590, 591, 592, 593, 120, 860, 861, 862, 863, 875, 876, 877, 878, 879, 880, 881, 882, 883, 901, 902, 903, 897, 898, 899, 900, 895, 896, 884, 885, 891, 892, 893, 894] (by decide +kernel) (by decide +kernel)
set_option maxRecDepth 20000 in
theorem gL_law_X8_finish : GoodIn wsL_law (wsV RL 81 RX8 yX8_finish wsX8_finish) := goodIn_app (goodIn_of _ (by decide +kernel)) ggL_law_X8_finish
set_option maxRecDepth 20000 in
theorem ggL_law_X9_finish : GoodIn wsL_law wsX9_finish := goodIn_r _ [597, 105, 598, 108, 451, 452, 453, 5, 454, 233, 234, 235, 236, 455, 456, 457, 458, 318, 319, 320, 170, 171, 172, 173, 174, 106, 467, 468, 469, 470, 599, 600, 601, 602, 603, 604, 605, 606, 607, 608, 609, 610, 611, 612, 613, 614, 374, 375, 376, 377, 167, 168, 169, 615, 616, 617, 864, 865, 866, 867, 868, 869, 870, 871, 872, 873, 874] (by decide +kernel) (by decide +kernel)
set_option maxRecDepth 20000 in
theorem gL_law_X9_finish : GoodIn wsL_law (wsV RL 84 RX9 yX9_finish wsX9_finish) := goodIn_app (goodIn_of _ (by decide +kernel)) ggL_law_X9_finish
