set_option maxRecDepth 20000 in
theorem ggL_law_X8_would : GoodIn wsL_law wsX8_would := goodIn_r _ [621, 27, 15, 559, 560, 561, 26, 562, 96, 97, 99, 563, 121, 122, 34, 123, 73, 564, 70, 71, 72, 74, 75, 76, 77, 53, 565, 140, 141, 142, 566, 211, 212, 213, 214, 215, 216, 217, 567, 568, 569, 570, 571, 350, 344, 351, 572, 347, 348, 573, 356, 357, 574, 219, 220, 221, 575, 394, 395, 576, 577, 578, 118, 2, 119, 579, 203, 204, 205, 580, 581, 582, 583, 584, 475, 476, 477, 120, 386, 860, 861, 862, 863, 875, 876, 877, 878, 879, 880, 881, 882, 883, 891, 892, 893, 894, 897, 898, 899, 900, 895, 896] (by decide +kernel) (by decide +kernel)
set_option maxRecDepth 20000 in
theorem gL_law_X8_would : GoodIn wsL_law (wsV RL 85 RX8 yX8_would wsX8_would) := goodIn_app (goodIn_of _ (by decide +kernel)) ggL_law_X8_would
set_option maxRecDepth 20000 in
theorem ggL_law_X9_would : GoodIn wsL_law wsX9_would := goodIn_r _ [625, 599, 600, 601, 5, 602, 598, 105, 108, 603, 604, 605, 606, 318, 319, 320, 607, 608, 609, 610, 611, 612, 613, 614, 374, 375, 376, 377, 167, 168, 169, 615, 616, 617, 626, 627, 628, 629, 864, 865, 866, 867, 868, 869, 870, 871, 872, 873, 874] (by decide +kernel) (by decide +kernel)
set_option maxRecDepth 20000 in
theorem gL_law_X9_would : GoodIn wsL_law (wsV RL 88 RX9 yX9_would wsX9_would) := goodIn_app (goodIn_of _ (by decide +kernel)) ggL_law_X9_would
set_option maxRecDepth 20000 in
theorem ggL_law_X8_again : GoodIn wsL_law wsX8_again := goodIn_r _ [633, 27, 15, 634, 635, 636, 26, 637, 98, 99, 579, 203, 204, 34, 205, 73, 563, 121, 122, 123, 566, 211, 212, 213, 53, 214, 215, 216, 217, 638, 639, 640, 641, 642, 643, 644, 571, 350, 344, 351, 572, 347, 348, 645, 646, 647, 648, 74, 75, 76, 77, 210, 218, 219, 220, 221, 565, 140, 141, 142, 649, 650, 651, 652, 573, 356, 357, 653, 654, 655, 656, 575, 394, 395, 574, 576, 577, 578, 118, 2, 119, 475, 476, 477, 120, 386, 860, 861, 862, 863, 875, 876, 877, 878, 879, 880, 881, 882, 883, 891, 892, 893, 894, 897, 898, 899, 900, 895, 896] (by decide +kernel) (by decide +kernel)
set_option maxRecDepth 20000 in
theorem gL_law_X8_again : GoodIn wsL_law (wsV RL 89 RX8 yX8_again wsX8_again) := goodIn_app (goodIn_of _ (by decide +kernel)) ggL_law_X8_again
set_option maxRecDepth 20000 in
theorem ggL_law_X9_again : GoodIn wsL_law wsX9_again := goodIn_r _ [660, 661, 662, 663, 5, 664, 105, 598, 108, 318, 319, 320, 607, 608, 609, 610, 665, 666, 667, 668, 669, 670, 671, 672, 615, 616, 617, 167, 168, 169, 626, 627, 628, 629, 864, 865, 866, 867, 868, 869, 870, 871, 872, 873, 874] (by decide +kernel) (by decide +kernel)
set_option maxRecDepth 20000 in
theorem gL_law_X9_again : GoodIn wsL_law (wsV RL 92 RX9 yX9_again wsX9_again) := goodIn_app (goodIn_of _ (by decide +kernel)) ggL_law_X9_again
set_option maxRecDepth 20000 in
theorem ggL_law_X8_reader : GoodIn wsL_law wsX8_reader := goodIn_r _ [676, 15, 187, 188, 2, 189, 117, 118, 119, 386, 211, 212, 34, 213, 53, 214, 215, 216, 217, 73, 190, 191, 192, 14, 193, 138, 148, 149, 150, 151, 37, 860, 861, 862, 863, 875, 876, 877, 878, 879, 880, 881, 882, 883, 895, 896, 901, 902, 903] (by decide +kernel) (by decide +kernel)
set_option maxRecDepth 20000 in
theorem gL_law_X8_reader : GoodIn wsL_law (wsV RL 93 RX8 yX8_reader wsX8_reader) := goodIn_app (goodIn_of _ (by decide +kernel)) ggL_law_X8_reader
set_option maxRecDepth 20000 in
theorem ggL_law_X9_reader : GoodIn wsL_law wsX9_reader := goodIn_r _ [680, 105, 226, 227, 5, 228, 167, 168, 169, 229, 230, 231, 232, 233, 234, 235, 236, 864, 865, 866, 867, 868, 869, 870, 871, 872, 873, 874] (by decide +kernel) (by decide +kernel)
set_option maxRecDepth 20000 in
theorem gL_law_X9_reader : GoodIn wsL_law (wsV RL 96 RX9 yX9_reader wsX9_reader) := goodIn_app (goodIn_of _ (by decide +kernel)) ggL_law_X9_reader
set_option maxRecDepth 20000 in
theorem ggL_law_X8_type : GoodIn wsL_law wsX8_type := goodIn_r _ [684, 23, 114, 115, 2, 116, 117, 118, 119, 120, 121, 122, 34, 123, 73, 162, 75, 76, 77, 53, 860, 861, 862, 863, 886, 887, 888, 889, 890, 895, 896] (by decide +kernel) (by decide +kernel)
set_option maxRecDepth 20000 in
theorem gL_law_X8_type : GoodIn wsL_law (wsV RL 97 RX8 yX8_type wsX8_type) := goodIn_app (goodIn_of _ (by decide +kernel)) ggL_law_X8_type
set_option maxRecDepth 20000 in
theorem ggL_law_X9_type : GoodIn wsL_law wsX9_type := goodIn_r _ [688, 450, 107, 167, 168, 5, 169, 864, 865, 866, 867, 868, 869, 870, 871, 872, 873, 874] (by decide +kernel) (by decide +kernel)
set_option maxRecDepth 20000 in
theorem gL_law_X9_type : GoodIn wsL_law (wsV RL 100 RX9 yX9_type wsX9_type) := goodIn_app (goodIn_of _ (by decide +kernel)) ggL_law_X9_type
set_option maxRecDepth 20000 in
theorem ggL_law_X8_clearText : GoodIn wsL_law wsX8_clearText := goodIn_r _ [692, 23, 120, 121, 122, 34, 123, 73, 693, 203, 204, 205, 860, 861, 862, 863, 886, 887, 888, 889, 890, 895, 896] (by decide +kernel) (by decide +kernel)
set_option maxRecDepth 20000 in
theorem gL_law_X8_clearText : GoodIn wsL_law (wsV RL 101 RX8 yX8_clearText wsX8_clearText) := goodIn_app (goodIn_of _ (by decide +kernel)) ggL_law_X8_clearText
set_option maxRecDepth 20000 in
theorem ggL_law_X9_clearText : GoodIn wsL_law wsX9_clearText := goodIn_r _ [697, 450, 864, 865, 866, 867, 868, 869, 870, 871, 872, 873, 874] (by decide +kernel) (by decide +kernel)
set_option maxRecDepth 20000 in
theorem gL_law_X9_clearText : GoodIn wsL_law (wsV RL 104 RX9 yX9_clearText wsX9_clearText) := goodIn_app (goodIn_of _ (by decide +kernel)) ggL_law_X9_clearText
set_option maxRecDepth 20000 in
theorem ggL_law_X8_fault : GoodIn wsL_law wsX8_fault := goodIn_r _ [701, 15, 23, 244, 149, 150, 14, 151, 138, 37, 117, 118, 2, 119, 120, 121, 122, 34, 123, 73, 702, 703, 704, 22, 705, 90, 706, 707, 89, 708, 709, 203, 204, 205, 710, 711, 712, 713, 714, 715, 716, 717, 718, 719, 211, 212, 213, 53, 214, 215, 216, 217, 720, 721, 722, 723, 724, 725, 726, 727, 728, 729, 730, 731, 732, 733, 734, 735, 736, 737, 738, 739, 740, 741, 742, 743, 744, 745, 746, 747, 748, 749, 750, 751, 752, 753, 754, 755, 756, 757, 758, 759, 760, 761, 762, 763, 764, 765, 766, 767, 768, 769, 770, 771, 772, 773, 774, 775, 776, 777, 778, 779, 780, 781, 782, 783, 784, 391, 344, 392, 785, 786, 787, 788, 789, 790, 791, 792, 793, 794, 795, 796, 797, 798, 799, 296, 297, 298, 210, 800, 75, 76, 77, 860, 861, 862, 863, 901, 902, 903, 875, 876, 877, 878, 879, 880, 881, 882, 883, 886, 887, 888, 889, 890, 895, 896] (by decide +kernel) (by decide +kernel)
set_option maxRecDepth 20000 in
theorem gL_law_X8_fault : GoodIn wsL_law (wsV RL 105 RX8 yX8_fault wsX8_fault) := goodIn_app (goodIn_of _ (by decide +kernel)) ggL_law_X8_fault
set_option maxRecDepth 20000 in
theorem ggL_law_X9_fault : GoodIn wsL_law wsX9_fault := goodIn_r _ [804, 805, 253, 254, 255, 5, 256, 105, 167, 168, 169, 806, 807, 808, 809, 810, 811, 450, 812, 813, 814, 815, 816, 817, 818, 819, 820, 821, 822, 823, 107, 824, 825, 826, 827, 828, 829, 830, 109, 831, 832, 833, 834, 835, 836, 837, 838, 839, 840, 841, 842, 843, 844, 845, 846, 233, 234, 235, 236, 307, 308, 309, 864, 865, 866, 867, 868, 869, 870, 871, 872, 873, 874] (by decide +kernel) (by decide +kernel)
set_option maxRecDepth 20000 in
theorem gL_law_X9_fault : GoodIn wsL_law (wsV RL 108 RX9 yX9_fault wsX9_fault) := goodIn_app (goodIn_of _ (by decide +kernel)) ggL_law_X9_fault
