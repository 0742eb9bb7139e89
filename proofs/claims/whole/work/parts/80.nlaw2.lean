set_option maxRecDepth 20000 in
theorem ggL_law_X8_find : GoodIn wsL_law wsX8_find := goodIn_r _ [272, 15, 244, 149, 150, 14, 151, 138, 37, 245, 246, 247, 2, 248, 19, 124, 125, 126, 18, 127, 128, 83, 129, 130, 131, 132, 133, 134, 135, 136, 35, 41, 42, 43, 44, 45, 137, 139, 140, 141, 34, 142, 73, 53, 143, 144, 145, 40, 146, 58, 59, 60, 61, 147, 148, 152, 153, 154, 155, 156, 157, 47, 158, 159, 160, 67, 161, 120, 121, 122, 123, 860, 861, 862, 863, 901, 902, 903, 875, 876, 877, 878, 879, 880, 881, 882, 883, 884, 885, 895, 896, 897, 898, 899, 900] (by decide +kernel) (by decide +kernel)
set_option maxRecDepth 20000 in
theorem gL_law_X8_find : GoodIn wsL_law (wsV RL 35 RX8 yX8_find wsX8_find) := goodIn_app (goodIn_of _ (by decide +kernel)) ggL_law_X8_find
set_option maxRecDepth 20000 in
theorem ggL_law_X9_find : GoodIn wsL_law wsX9_find := goodIn_r _ [276, 253, 254, 255, 5, 256, 105, 167, 168, 169, 233, 234, 235, 236, 257, 258, 259, 260, 170, 171, 172, 173, 174, 106, 237, 238, 239, 864, 865, 866, 867, 868, 869, 870, 871, 872, 873, 874] (by decide +kernel) (by decide +kernel)
set_option maxRecDepth 20000 in
theorem gL_law_X9_find : GoodIn wsL_law (wsV RL 38 RX9 yX9_find wsX9_find) := goodIn_app (goodIn_of _ (by decide +kernel)) ggL_law_X9_find
set_option maxRecDepth 20000 in
theorem ggL_law_X8_merge : GoodIn wsL_law wsX8_merge := goodIn_r _ [280, 15, 19, 244, 149, 150, 14, 151, 138, 37, 124, 125, 126, 18, 127, 128, 83, 129, 130, 131, 132, 133, 134, 135, 136, 35, 41, 42, 43, 44, 45, 137, 139, 140, 141, 34, 142, 73, 53, 143, 144, 145, 40, 146, 58, 59, 60, 61, 147, 148, 152, 153, 154, 155, 156, 157, 47, 158, 159, 160, 67, 161, 281, 282, 283, 284, 285, 121, 122, 123, 286, 211, 212, 213, 214, 215, 216, 217, 287, 288, 289, 290, 291, 292, 293, 294, 295, 296, 297, 298, 210, 299, 207, 208, 209, 218, 219, 220, 221, 300, 301, 302, 75, 76, 77, 206, 860, 861, 862, 863, 901, 902, 903, 875, 876, 877, 878, 879, 880, 881, 882, 883, 884, 885, 895, 896, 897, 898, 899, 900] (by decide +kernel) (by decide +kernel)
set_option maxRecDepth 20000 in
theorem gL_law_X8_merge : GoodIn wsL_law (wsV RL 39 RX8 yX8_merge wsX8_merge) := goodIn_app (goodIn_of _ (by decide +kernel)) ggL_law_X8_merge
set_option maxRecDepth 20000 in
theorem ggL_law_X9_merge : GoodIn wsL_law wsX9_merge := goodIn_r _ [306, 105, 253, 254, 255, 5, 256, 167, 168, 169, 233, 234, 235, 236, 170, 171, 172, 173, 174, 106, 307, 308, 309, 310, 311, 312, 313, 314, 315, 316, 317, 318, 319, 320, 321, 322, 323, 324, 237, 238, 239, 864, 865, 866, 867, 868, 869, 870, 871, 872, 873, 874] (by decide +kernel) (by decide +kernel)
set_option maxRecDepth 20000 in
theorem gL_law_X9_merge : GoodIn wsL_law (wsV RL 42 RX9 yX9_merge wsX9_merge) := goodIn_app (goodIn_of _ (by decide +kernel)) ggL_law_X9_merge
set_option maxRecDepth 20000 in
theorem ggL_law_X8_sheet : GoodIn wsL_law wsX8_sheet := goodIn_r _ [328, 15, 244, 149, 150, 14, 151, 138, 37, 120, 121, 122, 34, 123, 73, 329, 330, 331, 40, 332, 58, 333, 300, 211, 212, 213, 53, 214, 215, 216, 217, 295, 296, 297, 298, 210, 334, 335, 336, 337, 338, 339, 340, 341, 59, 342, 343, 344, 345, 346, 347, 348, 349, 350, 351, 352, 353, 354, 355, 356, 357, 860, 861, 862, 863, 901, 902, 903, 875, 876, 877, 878, 879, 880, 881, 882, 883, 895, 896, 897, 898, 899, 900] (by decide +kernel) (by decide +kernel)
set_option maxRecDepth 20000 in
theorem gL_law_X8_sheet : GoodIn wsL_law (wsV RL 43 RX8 yX8_sheet wsX8_sheet) := goodIn_app (goodIn_of _ (by decide +kernel)) ggL_law_X8_sheet
set_option maxRecDepth 20000 in
theorem ggL_law_X9_sheet : GoodIn wsL_law wsX9_sheet := goodIn_r _ [361, 253, 254, 255, 5, 256, 105, 167, 168, 169, 362, 363, 364, 365, 233, 234, 235, 236, 307, 308, 309, 314, 315, 316, 317, 318, 319, 320, 321, 322, 323, 324, 366, 367, 368, 369, 370, 371, 372, 373, 374, 375, 376, 377, 378, 379, 380, 381, 864, 865, 866, 867, 868, 869, 870, 871, 872, 873, 874] (by decide +kernel) (by decide +kernel)
set_option maxRecDepth 20000 in
theorem gL_law_X9_sheet : GoodIn wsL_law (wsV RL 47 RX9 yX9_sheet wsX9_sheet) := goodIn_app (goodIn_of _ (by decide +kernel)) ggL_law_X9_sheet
set_option maxRecDepth 20000 in
theorem ggL_law_X8_written : GoodIn wsL_law wsX8_written := goodIn_r _ [385, 15, 244, 149, 150, 14, 151, 138, 37, 117, 118, 2, 119, 120, 121, 122, 34, 123, 73, 386, 211, 212, 213, 53, 214, 215, 216, 217, 387, 388, 344, 389, 346, 347, 348, 349, 350, 351, 355, 356, 357, 390, 391, 392, 393, 394, 395, 396, 296, 297, 298, 210, 860, 861, 862, 863, 901, 902, 903, 875, 876, 877, 878, 879, 880, 881, 882, 883, 897, 898, 899, 900, 895, 896] (by decide +kernel) (by decide +kernel)
set_option maxRecDepth 20000 in
theorem gL_law_X8_written : GoodIn wsL_law (wsV RL 48 RX8 yX8_written wsX8_written) := goodIn_app (goodIn_of _ (by decide +kernel)) ggL_law_X8_written
set_option maxRecDepth 20000 in
theorem ggL_law_X9_written : GoodIn wsL_law wsX9_written := goodIn_r _ [400, 253, 254, 255, 5, 256, 105, 167, 168, 169, 233, 234, 235, 236, 307, 308, 309, 314, 315, 316, 317, 318, 319, 320, 321, 322, 323, 324, 401, 402, 403, 404, 864, 865, 866, 867, 868, 869, 870, 871, 872, 873, 874] (by decide +kernel) (by decide +kernel)
set_option maxRecDepth 20000 in
theorem gL_law_X9_written : GoodIn wsL_law (wsV RL 52 RX9 yX9_written wsX9_written) := goodIn_app (goodIn_of _ (by decide +kernel)) ggL_law_X9_written
set_option maxRecDepth 20000 in
theorem ggL_law_X8_undo : GoodIn wsL_law wsX8_undo := goodIn_r _ [408, 19, 15, 409, 410, 411, 18, 412, 128, 83, 133, 134, 135, 14, 136, 35, 41, 42, 43, 44, 45, 137, 138, 139, 140, 141, 34, 142, 73, 53, 143, 144, 145, 40, 146, 58, 59, 60, 61, 147, 148, 149, 150, 151, 37, 152, 153, 154, 155, 156, 157, 47, 158, 159, 160, 67, 161, 860, 861, 862, 863, 884, 885, 875, 876, 877, 878, 879, 880, 881, 882, 883, 895, 896, 897, 898, 899, 900, 901, 902, 903] (by decide +kernel) (by decide +kernel)
set_option maxRecDepth 20000 in
theorem gL_law_X8_undo : GoodIn wsL_law (wsV RL 53 RX8 yX8_undo wsX8_undo) := goodIn_app (goodIn_of _ (by decide +kernel)) ggL_law_X8_undo
set_option maxRecDepth 20000 in
theorem ggL_law_X9_undo : GoodIn wsL_law wsX9_undo := goodIn_r _ [416, 174, 105, 106, 864, 865, 866, 867, 868, 869, 870, 871, 872, 873, 874] (by decide +kernel) (by decide +kernel)
set_option maxRecDepth 20000 in
theorem gL_law_X9_undo : GoodIn wsL_law (wsV RL 56 RX9 yX9_undo wsX9_undo) := goodIn_app (goodIn_of _ (by decide +kernel)) ggL_law_X9_undo
set_option maxRecDepth 20000 in
theorem ggL_law_X8_count : GoodIn wsL_law wsX8_count := goodIn_r _ [420, 15, 19, 23, 117, 118, 2, 119, 421, 422, 423, 14, 424, 41, 42, 425, 426, 427, 428, 138, 148, 149, 150, 151, 37, 285, 121, 122, 34, 123, 73, 429, 430, 431, 40, 432, 59, 333, 300, 211, 212, 213, 53, 214, 215, 216, 217, 286, 120, 433, 434, 435, 436, 437, 438, 439, 440, 441, 58, 442, 443, 444, 445, 342, 343, 344, 345, 346, 347, 348, 349, 350, 351, 352, 353, 354, 355, 356, 357, 860, 861, 862, 863, 875, 876, 877, 878, 879, 880, 881, 882, 883, 897, 898, 899, 900, 884, 885, 886, 887, 888, 889, 890, 901, 902, 903, 895, 896] (by decide +kernel) (by decide +kernel)
set_option maxRecDepth 20000 in
theorem gL_law_X8_count : GoodIn wsL_law (wsV RL 57 RX8 yX8_count wsX8_count) := goodIn_app (goodIn_of _ (by decide +kernel)) ggL_law_X8_count
set_option maxRecDepth 20000 in
theorem ggL_law_X9_count : GoodIn wsL_law wsX9_count := goodIn_r _ [449, 105, 174, 450, 451, 452, 453, 5, 454, 233, 234, 235, 236, 455, 456, 457, 458, 318, 319, 320, 459, 460, 461, 462, 463, 464, 465, 466, 370, 371, 372, 373, 321, 322, 323, 324, 374, 375, 376, 377, 378, 379, 380, 381, 467, 468, 469, 470, 167, 168, 169, 864, 865, 866, 867, 868, 869, 870, 871, 872, 873, 874] (by decide +kernel) (by decide +kernel)
set_option maxRecDepth 20000 in
theorem gL_law_X9_count : GoodIn wsL_law (wsV RL 60 RX9 yX9_count wsX9_count) := goodIn_app (goodIn_of _ (by decide +kernel)) ggL_law_X9_count
