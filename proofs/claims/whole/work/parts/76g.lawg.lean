set_option maxRecDepth 20000 in
theorem ggL_law_X5_write : GoodIn wsL_law wsX5_write := goodIn_r _ [736, 75, 737, 712, 738, 713, 714, 715, 2, 716, 29, 77, 78, 79, 80, 81, 82, 83, 33, 739, 740, 741, 31, 742, 721, 743, 744, 745, 746, 724, 58, 747, 748, 749, 750, 912, 913, 914, 871, 872, 873, 874, 875, 876, 877, 878] (by decide +kernel) (by decide +kernel)
set_option maxRecDepth 20000 in
theorem gL_law_X5_write : GoodIn wsL_law (wsV RL 123 RX5 yX5_write wsX5_write) := goodIn_app (goodIn_of _ (by decide +kernel)) ggL_law_X5_write
set_option maxRecDepth 20000 in
theorem ggL_law_X6_write : GoodIn wsL_law wsX6_write := goodIn_r _ [754, 69, 88, 70, 68, 755, 756, 757, 5, 758, 759, 730, 731, 732, 89, 90, 91, 96, 97, 98, 99, 66, 760, 761, 762, 879, 880, 881, 882, 883, 884, 885, 886, 887, 888, 889, 890, 891, 892, 893, 894] (by decide +kernel) (by decide +kernel)
set_option maxRecDepth 20000 in
theorem gL_law_X6_write : GoodIn wsL_law (wsV RL 127 RX6 yX6_write wsX6_write) := goodIn_app (goodIn_of _ (by decide +kernel)) ggL_law_X6_write
set_option maxRecDepth 20000 in
theorem ggL_law_X5_copy : GoodIn wsL_law wsX5_copy := goodIn_r _ [766, 75, 737, 767, 310, 738, 768, 383, 384, 385, 713, 714, 715, 2, 716, 29, 77, 78, 79, 80, 81, 82, 83, 33, 739, 740, 741, 31, 742, 721, 769, 770, 771, 772, 724, 912, 913, 914, 871, 872, 873, 874, 875, 876, 877, 878] (by decide +kernel) (by decide +kernel)
set_option maxRecDepth 20000 in
theorem gL_law_X5_copy : GoodIn wsL_law (wsV RL 128 RX5 yX5_copy wsX5_copy) := goodIn_app (goodIn_of _ (by decide +kernel)) ggL_law_X5_copy
set_option maxRecDepth 20000 in
theorem ggL_law_X6_copy : GoodIn wsL_law wsX6_copy := goodIn_r _ [776, 70, 777, 778, 779, 5, 780, 88, 68, 759, 318, 69, 730, 731, 732, 89, 90, 91, 96, 97, 98, 99, 66, 879, 880, 881, 882, 883, 884, 885, 886, 887, 888, 889, 890, 891, 892, 893, 894] (by decide +kernel) (by decide +kernel)
set_option maxRecDepth 20000 in
theorem gL_law_X6_copy : GoodIn wsL_law (wsV RL 132 RX6 yX6_copy wsX6_copy) := goodIn_app (goodIn_of _ (by decide +kernel)) ggL_law_X6_copy
set_option maxRecDepth 20000 in
theorem ggL_law_X5_lays : GoodIn wsL_law wsX5_lays := goodIn_r _ [784, 75, 737, 712, 16, 247, 528, 351, 154, 352, 738, 785, 241, 713, 714, 715, 2, 716, 29, 77, 78, 79, 80, 81, 82, 83, 33, 739, 740, 741, 31, 742, 721, 912, 913, 914, 871, 872, 873, 874, 875, 876, 877, 878, 895, 896, 897, 898, 899, 900, 901, 902, 903, 904] (by decide +kernel) (by decide +kernel)
set_option maxRecDepth 20000 in
theorem gL_law_X5_lays : GoodIn wsL_law (wsV RL 133 RX5 yX5_lays wsX5_lays) := goodIn_app (goodIn_of _ (by decide +kernel)) ggL_law_X5_lays
set_option maxRecDepth 20000 in
theorem ggL_law_X6_lays : GoodIn wsL_law wsX6_lays := goodIn_r _ [789, 69, 63, 70, 755, 756, 757, 5, 758, 88, 68, 759, 730, 731, 732, 89, 90, 91, 96, 97, 98, 99, 66, 230, 231, 232, 233, 879, 880, 881, 882, 883, 884, 885, 886, 887, 888, 889, 890, 891, 892, 893, 894] (by decide +kernel) (by decide +kernel)
set_option maxRecDepth 20000 in
theorem gL_law_X6_lays : GoodIn wsL_law (wsV RL 136 RX6 yX6_lays wsX6_lays) := goodIn_app (goodIn_of _ (by decide +kernel)) ggL_law_X6_lays
set_option maxRecDepth 20000 in
theorem ggL_law_X5_book : GoodIn wsL_law wsX5_book := goodIn_r _ [793, 75, 737, 712, 713, 714, 715, 2, 716, 29, 77, 78, 79, 80, 81, 82, 83, 33, 739, 740, 741, 31, 742, 721, 374, 375, 376, 377, 17, 16, 378, 379, 380, 15, 381, 119, 148, 353, 131, 38, 382, 383, 384, 385, 39, 40, 41, 42, 43, 794, 341, 342, 343, 344, 153, 154, 155, 345, 128, 129, 130, 132, 133, 134, 135, 136, 137, 138, 139, 140, 141, 142, 143, 144, 145, 146, 147, 149, 150, 151, 152, 346, 347, 348, 349, 350, 351, 352, 354, 253, 254, 255, 256, 116, 117, 118, 120, 121, 122, 123, 257, 258, 259, 355, 263, 264, 265, 266, 267, 268, 743, 744, 745, 746, 724, 58, 747, 748, 749, 750, 912, 913, 914, 871, 872, 873, 874, 875, 876, 877, 878, 895, 896, 897, 898, 899, 900, 901, 902, 903, 904] (by decide +kernel) (by decide +kernel)
set_option maxRecDepth 20000 in
theorem gL_law_X5_book : GoodIn wsL_law (wsV RL 137 RX5 yX5_book wsX5_book) := goodIn_app (goodIn_of _ (by decide +kernel)) ggL_law_X5_book
set_option maxRecDepth 20000 in
theorem ggL_law_X6_book : GoodIn wsL_law wsX6_book := goodIn_r _ [798, 69, 70, 68, 755, 756, 757, 5, 758, 88, 759, 730, 731, 732, 89, 90, 91, 96, 97, 98, 99, 66, 390, 391, 392, 393, 63, 65, 394, 395, 396, 172, 173, 174, 175, 176, 177, 178, 179, 180, 181, 182, 183, 184, 185, 186, 187, 188, 189, 190, 191, 192, 193, 194, 195, 760, 761, 762, 365, 366, 367, 368, 369, 278, 279, 280, 281, 168, 169, 170, 171, 328, 329, 330, 230, 231, 232, 233, 282, 283, 284, 285, 397, 398, 399, 400, 879, 880, 881, 882, 883, 884, 885, 886, 887, 888, 889, 890, 891, 892, 893, 894] (by decide +kernel) (by decide +kernel)
set_option maxRecDepth 20000 in
theorem gL_law_X6_book : GoodIn wsL_law (wsV RL 140 RX6 yX6_book wsX6_book) := goodIn_app (goodIn_of _ (by decide +kernel)) ggL_law_X6_book
set_option maxRecDepth 20000 in
theorem ggL_law_X5_read : GoodIn wsL_law wsX5_read := goodIn_r _ [802, 75, 737, 238, 76, 713, 714, 715, 2, 716, 29, 77, 78, 79, 80, 81, 82, 83, 33, 739, 740, 741, 31, 742, 721, 243, 244, 245, 246, 16, 247, 374, 375, 376, 377, 17, 378, 379, 380, 15, 381, 119, 148, 353, 131, 38, 382, 383, 384, 385, 39, 40, 41, 42, 43, 803, 804, 805, 712, 240, 738, 794, 341, 342, 343, 344, 153, 154, 155, 345, 128, 129, 130, 132, 133, 134, 135, 136, 137, 138, 139, 140, 141, 142, 143, 144, 145, 146, 147, 149, 150, 151, 152, 346, 347, 348, 349, 350, 351, 352, 354, 253, 254, 255, 256, 116, 117, 118, 120, 121, 122, 123, 257, 258, 259, 355, 263, 264, 265, 266, 267, 268, 895, 896, 897, 898, 899, 900, 901, 902, 903, 904, 871, 872, 873, 874, 875, 876, 877, 878, 912, 913, 914] (by decide +kernel) (by decide +kernel)
set_option maxRecDepth 20000 in
theorem gL_law_X5_read : GoodIn wsL_law (wsV RL 141 RX5 yX5_read wsX5_read) := goodIn_app (goodIn_of _ (by decide +kernel)) ggL_law_X5_read
