set_option maxRecDepth 20000 in
theorem ggL_law_X8_init : GoodIn wsL_law wsX8_init := goodIn_r _ [8, 9, 10, 11, 12, 13, 14, 15, 16, 17, 18, 19, 20, 21, 22, 23, 24, 25, 26, 27, 28, 29, 30, 31, 32, 33, 34, 35, 36, 37, 38, 39, 40, 41, 42, 43, 44, 45, 46, 47, 48, 49, 50, 51, 52, 53, 54, 55, 56, 57, 58, 59, 60, 61, 62, 63, 64, 65, 66, 67, 68, 69, 70, 71, 72, 73, 74, 75, 76, 77, 78, 79, 80, 81, 82, 83, 84, 85, 86, 87, 88, 89, 90, 91, 92, 93, 94, 95, 96, 97, 98, 99, 100, 875, 876, 877, 878, 879, 880, 881, 882, 883, 860, 861, 862, 863, 884, 885, 886, 887, 888, 889, 890, 891, 892, 893, 894, 895, 896, 897, 898, 899, 900, 901, 902, 903] (by decide +kernel) (by decide +kernel)
set_option maxRecDepth 20000 in
theorem gL_law_X8_init : GoodIn wsL_law (wsX8_init) := ggL_law_X8_init
set_option maxRecDepth 20000 in
theorem ggL_law_X9_init : GoodIn wsL_law wsX9_init := goodIn_r _ [103, 104, 10, 11, 52, 105, 106, 107, 108, 109, 864, 865, 866, 867, 868, 869, 870, 871, 872, 873, 874] (by decide +kernel) (by decide +kernel)
set_option maxRecDepth 20000 in
theorem gL_law_X9_init : GoodIn wsL_law (wsX9_init) := ggL_law_X9_init
set_option maxRecDepth 20000 in
theorem ggL_law_X8_put : GoodIn wsL_law wsX8_put := goodIn_r _ [113, 15, 19, 114, 115, 2, 116, 117, 118, 119, 120, 121, 122, 34, 123, 73, 124, 125, 126, 18, 127, 128, 83, 129, 130, 131, 132, 133, 134, 135, 14, 136, 35, 41, 42, 43, 44, 45, 137, 138, 139, 140, 141, 142, 53, 143, 144, 145, 40, 146, 58, 59, 60, 61, 147, 148, 149, 150, 151, 37, 152, 153, 154, 155, 156, 157, 47, 158, 159, 160, 67, 161, 162, 75, 76, 77, 860, 861, 862, 863, 875, 876, 877, 878, 879, 880, 881, 882, 883, 895, 896, 884, 885, 897, 898, 899, 900, 901, 902, 903] (by decide +kernel) (by decide +kernel)
set_option maxRecDepth 20000 in
theorem gL_law_X8_put : GoodIn wsL_law (wsV RL 13 RX8 yX8_put wsX8_put) := goodIn_app (goodIn_of _ (by decide +kernel)) ggL_law_X8_put
set_option maxRecDepth 20000 in
theorem ggL_law_X9_put : GoodIn wsL_law wsX9_put := goodIn_r _ [166, 105, 167, 168, 5, 169, 170, 171, 172, 173, 174, 106, 864, 865, 866, 867, 868, 869, 870, 871, 872, 873, 874] (by decide +kernel) (by decide +kernel)
set_option maxRecDepth 20000 in
theorem gL_law_X9_put : GoodIn wsL_law (wsV RL 17 RX9 yX9_put wsX9_put) := goodIn_app (goodIn_of _ (by decide +kernel)) ggL_law_X9_put
set_option maxRecDepth 20000 in
theorem ggL_law_X8_begin : GoodIn wsL_law wsX8_begin := goodIn_r _ [178, 15, 19, 120, 121, 122, 34, 123, 73, 124, 125, 126, 18, 127, 128, 83, 129, 130, 131, 132, 133, 134, 135, 14, 136, 35, 41, 42, 43, 44, 45, 137, 138, 139, 140, 141, 142, 53, 143, 144, 145, 40, 146, 58, 59, 60, 61, 147, 148, 149, 150, 151, 37, 152, 153, 154, 155, 156, 157, 47, 158, 159, 160, 67, 161, 860, 861, 862, 863, 875, 876, 877, 878, 879, 880, 881, 882, 883, 895, 896, 884, 885, 897, 898, 899, 900, 901, 902, 903] (by decide +kernel) (by decide +kernel)
set_option maxRecDepth 20000 in
theorem gL_law_X8_begin : GoodIn wsL_law (wsV RL 18 RX8 yX8_begin wsX8_begin) := goodIn_app (goodIn_of _ (by decide +kernel)) ggL_law_X8_begin
set_option maxRecDepth 20000 in
theorem ggL_law_X9_begin : GoodIn wsL_law wsX9_begin := goodIn_r _ [182, 105, 170, 171, 172, 5, 173, 174, 106, 864, 865, 866, 867, 868, 869, 870, 871, 872, 873, 874] (by decide +kernel) (by decide +kernel)
set_option maxRecDepth 20000 in
theorem gL_law_X9_begin : GoodIn wsL_law (wsV RL 22 RX9 yX9_begin wsX9_begin) := goodIn_app (goodIn_of _ (by decide +kernel)) ggL_law_X9_begin
set_option maxRecDepth 20000 in
theorem ggL_law_X8_send : GoodIn wsL_law wsX8_send := goodIn_r _ [186, 15, 19, 187, 188, 2, 189, 117, 118, 119, 190, 191, 192, 14, 193, 138, 148, 149, 150, 151, 37, 124, 125, 126, 18, 127, 128, 83, 129, 130, 131, 132, 133, 134, 135, 136, 35, 41, 42, 43, 44, 45, 137, 139, 140, 141, 34, 142, 73, 53, 143, 144, 145, 40, 146, 58, 59, 60, 61, 147, 152, 153, 154, 155, 156, 157, 47, 158, 159, 160, 67, 161, 194, 195, 196, 197, 198, 199, 200, 201, 202, 203, 204, 205, 206, 207, 208, 209, 210, 211, 212, 213, 214, 215, 216, 217, 218, 219, 220, 221, 860, 861, 862, 863, 875, 876, 877, 878, 879, 880, 881, 882, 883, 901, 902, 903, 884, 885, 895, 896, 897, 898, 899, 900] (by decide +kernel) (by decide +kernel)
set_option maxRecDepth 20000 in
theorem gL_law_X8_send : GoodIn wsL_law (wsV RL 23 RX8 yX8_send wsX8_send) := goodIn_app (goodIn_of _ (by decide +kernel)) ggL_law_X8_send
set_option maxRecDepth 20000 in
theorem ggL_law_X9_send : GoodIn wsL_law wsX9_send := goodIn_r _ [225, 105, 226, 227, 5, 228, 167, 168, 169, 229, 230, 231, 232, 233, 234, 235, 236, 170, 171, 172, 173, 174, 106, 237, 238, 239, 864, 865, 866, 867, 868, 869, 870, 871, 872, 873, 874] (by decide +kernel) (by decide +kernel)
set_option maxRecDepth 20000 in
theorem gL_law_X9_send : GoodIn wsL_law (wsV RL 26 RX9 yX9_send wsX9_send) := goodIn_app (goodIn_of _ (by decide +kernel)) ggL_law_X9_send
set_option maxRecDepth 20000 in
theorem ggL_law_X8_bring : GoodIn wsL_law wsX8_bring := goodIn_r _ [243, 15, 244, 149, 150, 14, 151, 138, 37, 245, 246, 247, 2, 248, 19, 124, 125, 126, 18, 127, 128, 83, 129, 130, 131, 132, 133, 134, 135, 136, 35, 41, 42, 43, 44, 45, 137, 139, 140, 141, 34, 142, 73, 53, 143, 144, 145, 40, 146, 58, 59, 60, 61, 147, 148, 152, 153, 154, 155, 156, 157, 47, 158, 159, 160, 67, 161, 120, 121, 122, 123, 860, 861, 862, 863, 901, 902, 903, 875, 876, 877, 878, 879, 880, 881, 882, 883, 884, 885, 895, 896, 897, 898, 899, 900] (by decide +kernel) (by decide +kernel)
set_option maxRecDepth 20000 in
theorem gL_law_X8_bring : GoodIn wsL_law (wsV RL 27 RX8 yX8_bring wsX8_bring) := goodIn_app (goodIn_of _ (by decide +kernel)) ggL_law_X8_bring
set_option maxRecDepth 20000 in
theorem ggL_law_X9_bring : GoodIn wsL_law wsX9_bring := goodIn_r _ [252, 253, 254, 255, 5, 256, 105, 167, 168, 169, 233, 234, 235, 236, 257, 258, 259, 260, 170, 171, 172, 173, 174, 106, 237, 238, 239, 864, 865, 866, 867, 868, 869, 870, 871, 872, 873, 874] (by decide +kernel) (by decide +kernel)
set_option maxRecDepth 20000 in
theorem gL_law_X9_bring : GoodIn wsL_law (wsV RL 30 RX9 yX9_bring wsX9_bring) := goodIn_app (goodIn_of _ (by decide +kernel)) ggL_law_X9_bring
set_option maxRecDepth 20000 in
theorem ggL_law_X8_lose : GoodIn wsL_law wsX8_lose := goodIn_r _ [264, 15, 244, 149, 150, 14, 151, 138, 37, 245, 246, 247, 2, 248, 19, 124, 125, 126, 18, 127, 128, 83, 129, 130, 131, 132, 133, 134, 135, 136, 35, 41, 42, 43, 44, 45, 137, 139, 140, 141, 34, 142, 73, 53, 143, 144, 145, 40, 146, 58, 59, 60, 61, 147, 148, 152, 153, 154, 155, 156, 157, 47, 158, 159, 160, 67, 161, 120, 121, 122, 123, 860, 861, 862, 863, 901, 902, 903, 875, 876, 877, 878, 879, 880, 881, 882, 883, 884, 885, 895, 896, 897, 898, 899, 900] (by decide +kernel) (by decide +kernel)
set_option maxRecDepth 20000 in
theorem gL_law_X8_lose : GoodIn wsL_law (wsV RL 31 RX8 yX8_lose wsX8_lose) := goodIn_app (goodIn_of _ (by decide +kernel)) ggL_law_X8_lose
set_option maxRecDepth 20000 in
theorem ggL_law_X9_lose : GoodIn wsL_law wsX9_lose := goodIn_r _ [268, 253, 254, 255, 5, 256, 105, 167, 168, 169, 233, 234, 235, 236, 257, 258, 259, 260, 170, 171, 172, 173, 174, 106, 237, 238, 239, 864, 865, 866, 867, 868, 869, 870, 871, 872, 873, 874] (by decide +kernel) (by decide +kernel)
set_option maxRecDepth 20000 in
theorem gL_law_X9_lose : GoodIn wsL_law (wsV RL 34 RX9 yX9_lose wsX9_lose) := goodIn_app (goodIn_of _ (by decide +kernel)) ggL_law_X9_lose
