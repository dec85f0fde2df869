set_option maxRecDepth 20000 in
theorem ggL_law_X6_part : GoodIn wsL_law wsX6_part := goodIn_r _ [224, 88, 63, 225, 89, 90, 5, 91, 96, 97, 98, 99, 66, 226, 227, 228, 229, 230, 231, 232, 233, 879, 880, 881, 882, 883, 884, 885, 886, 887, 888, 889, 890, 891, 892, 893, 894] (by decide +kernel) (by decide +kernel)
set_option maxRecDepth 20000 in
theorem gL_law_X6_part : GoodIn wsL_law (wsV RL 30 RX6 yX6_part wsX6_part) := goodIn_app (goodIn_of _ (by decide +kernel)) ggL_law_X6_part
set_option maxRecDepth 20000 in
theorem ggL_law_X5_of : GoodIn wsL_law wsX5_of := goodIn_r _ [237, 75, 16, 238, 239, 240, 241, 242, 243, 244, 245, 2, 246, 247, 77, 78, 79, 80, 81, 82, 83, 33, 248, 249, 250, 15, 251, 39, 40, 140, 141, 142, 143, 252, 253, 254, 255, 148, 256, 116, 117, 118, 38, 119, 120, 121, 122, 123, 257, 258, 259, 152, 153, 154, 155, 260, 133, 134, 135, 131, 136, 137, 138, 139, 41, 261, 145, 146, 147, 42, 149, 150, 151, 262, 263, 264, 265, 266, 267, 268, 269, 124, 125, 126, 871, 872, 873, 874, 875, 876, 877, 878, 895, 896, 897, 898, 899, 900, 901, 902, 903, 904] (by decide +kernel) (by decide +kernel)
set_option maxRecDepth 20000 in
theorem gL_law_X5_of : GoodIn wsL_law (wsV RL 31 RX5 yX5_of wsX5_of) := goodIn_app (goodIn_of _ (by decide +kernel)) ggL_law_X5_of
set_option maxRecDepth 20000 in
theorem ggL_law_X6_of : GoodIn wsL_law wsX6_of := goodIn_r _ [273, 88, 274, 275, 276, 5, 277, 63, 89, 90, 91, 96, 97, 98, 99, 66, 184, 185, 186, 187, 180, 181, 182, 183, 278, 279, 280, 281, 168, 169, 170, 171, 188, 189, 190, 191, 192, 193, 194, 195, 176, 177, 178, 179, 282, 283, 284, 285, 879, 880, 881, 882, 883, 884, 885, 886, 887, 888, 889, 890, 891, 892, 893, 894] (by decide +kernel) (by decide +kernel)
set_option maxRecDepth 20000 in
theorem gL_law_X6_of : GoodIn wsL_law (wsV RL 34 RX6 yX6_of wsX6_of) := goodIn_app (goodIn_of _ (by decide +kernel)) ggL_law_X6_of
set_option maxRecDepth 20000 in
theorem ggL_law_X5_set : GoodIn wsL_law wsX5_set := goodIn_r _ [289, 75, 16, 239, 240, 241, 242, 243, 244, 245, 2, 246, 247, 77, 78, 79, 80, 81, 82, 83, 33, 290, 291, 292, 293, 871, 872, 873, 874, 875, 876, 877, 878, 895, 896, 897, 898, 899, 900, 901, 902, 903, 904] (by decide +kernel) (by decide +kernel)
set_option maxRecDepth 20000 in
theorem gL_law_X5_set : GoodIn wsL_law (wsV RL 35 RX5 yX5_set wsX5_set) := goodIn_app (goodIn_of _ (by decide +kernel)) ggL_law_X5_set
set_option maxRecDepth 20000 in
theorem ggL_law_X6_set : GoodIn wsL_law wsX6_set := goodIn_r _ [297, 88, 274, 275, 276, 5, 277, 63, 89, 90, 91, 92, 93, 94, 95, 96, 97, 98, 99, 66, 879, 880, 881, 882, 883, 884, 885, 886, 887, 888, 889, 890, 891, 892, 893, 894] (by decide +kernel) (by decide +kernel)
set_option maxRecDepth 20000 in
theorem gL_law_X6_set : GoodIn wsL_law (wsV RL 39 RX6 yX6_set wsX6_set) := goodIn_app (goodIn_of _ (by decide +kernel)) ggL_law_X6_set
set_option maxRecDepth 20000 in
theorem ggL_law_X5_turn : GoodIn wsL_law wsX5_turn := goodIn_r _ [301, 75, 16, 238, 243, 244, 245, 2, 246, 247, 77, 78, 79, 80, 81, 82, 83, 33, 290, 291, 292, 293, 871, 872, 873, 874, 875, 876, 877, 878, 895, 896, 897, 898, 899, 900, 901, 902, 903, 904] (by decide +kernel) (by decide +kernel)
set_option maxRecDepth 20000 in
theorem gL_law_X5_turn : GoodIn wsL_law (wsV RL 40 RX5 yX5_turn wsX5_turn) := goodIn_app (goodIn_of _ (by decide +kernel)) ggL_law_X5_turn
set_option maxRecDepth 20000 in
theorem ggL_law_X6_turn : GoodIn wsL_law wsX6_turn := goodIn_r _ [305, 88, 274, 275, 276, 5, 277, 63, 89, 90, 91, 92, 93, 94, 95, 96, 97, 98, 99, 66, 879, 880, 881, 882, 883, 884, 885, 886, 887, 888, 889, 890, 891, 892, 893, 894] (by decide +kernel) (by decide +kernel)
set_option maxRecDepth 20000 in
theorem gL_law_X6_turn : GoodIn wsL_law (wsV RL 43 RX6 yX6_turn wsX6_turn) := goodIn_app (goodIn_of _ (by decide +kernel)) ggL_law_X6_turn
set_option maxRecDepth 20000 in
theorem ggL_law_X5_as : GoodIn wsL_law wsX5_as := goodIn_r _ [309, 75, 16, 238, 310, 240, 243, 244, 245, 2, 246, 247, 77, 78, 79, 209, 210, 211, 80, 81, 82, 83, 33, 311, 312, 142, 313, 871, 872, 873, 874, 875, 876, 877, 878, 895, 896, 897, 898, 899, 900, 901, 902, 903, 904] (by decide +kernel) (by decide +kernel)
set_option maxRecDepth 20000 in
theorem gL_law_X5_as : GoodIn wsL_law (wsV RL 44 RX5 yX5_as wsX5_as) := goodIn_app (goodIn_of _ (by decide +kernel)) ggL_law_X5_as
set_option maxRecDepth 20000 in
theorem ggL_law_X6_as : GoodIn wsL_law wsX6_as := goodIn_r _ [317, 88, 318, 274, 275, 276, 5, 277, 63, 89, 90, 91, 96, 97, 98, 99, 66, 180, 181, 182, 183, 879, 880, 881, 882, 883, 884, 885, 886, 887, 888, 889, 890, 891, 892, 893, 894] (by decide +kernel) (by decide +kernel)
set_option maxRecDepth 20000 in
theorem gL_law_X6_as : GoodIn wsL_law (wsV RL 47 RX6 yX6_as wsX6_as) := goodIn_app (goodIn_of _ (by decide +kernel)) ggL_law_X6_as
