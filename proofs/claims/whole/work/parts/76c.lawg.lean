set_option maxRecDepth 20000 in
theorem ggL_law_X5_left : GoodIn wsL_law wsX5_left := goodIn_r _ [322, 75, 16, 240, 323, 153, 154, 155, 243, 244, 245, 2, 246, 247, 77, 78, 79, 80, 81, 82, 83, 33, 248, 249, 250, 15, 251, 39, 40, 140, 141, 142, 143, 871, 872, 873, 874, 875, 876, 877, 878, 895, 896, 897, 898, 899, 900, 901, 902, 903, 904] (by decide +kernel) (by decide +kernel)
set_option maxRecDepth 20000 in
theorem gL_law_X5_left : GoodIn wsL_law (wsV RL 48 RX5 yX5_left wsX5_left) := goodIn_app (goodIn_of _ (by decide +kernel)) ggL_law_X5_left
set_option maxRecDepth 20000 in
theorem ggL_law_X6_left : GoodIn wsL_law wsX6_left := goodIn_r _ [327, 88, 274, 275, 276, 5, 277, 63, 89, 90, 91, 184, 185, 186, 187, 180, 181, 182, 183, 328, 329, 330, 96, 97, 98, 99, 66, 879, 880, 881, 882, 883, 884, 885, 886, 887, 888, 889, 890, 891, 892, 893, 894] (by decide +kernel) (by decide +kernel)
set_option maxRecDepth 20000 in
theorem gL_law_X6_left : GoodIn wsL_law (wsV RL 51 RX6 yX6_left wsX6_left) := goodIn_app (goodIn_of _ (by decide +kernel)) ggL_law_X6_left
set_option maxRecDepth 20000 in
theorem ggL_law_X5_days : GoodIn wsL_law wsX5_days := goodIn_r _ [334, 75, 16, 113, 335, 77, 78, 2, 79, 80, 81, 82, 83, 33, 336, 337, 338, 15, 339, 340, 341, 342, 343, 148, 344, 153, 154, 155, 131, 43, 119, 345, 128, 129, 130, 132, 133, 134, 135, 136, 137, 138, 139, 41, 39, 40, 140, 141, 142, 143, 144, 145, 146, 147, 42, 149, 150, 151, 152, 346, 347, 348, 349, 350, 351, 352, 353, 354, 253, 254, 255, 256, 116, 117, 118, 38, 120, 121, 122, 123, 257, 258, 259, 355, 263, 264, 265, 266, 267, 268, 156, 157, 158, 159, 871, 872, 873, 874, 875, 876, 877, 878, 895, 896, 897, 898, 899, 900, 901, 902, 903, 904] (by decide +kernel) (by decide +kernel)
set_option maxRecDepth 20000 in
theorem gL_law_X5_days : GoodIn wsL_law (wsV RL 52 RX5 yX5_days wsX5_days) := goodIn_app (goodIn_of _ (by decide +kernel)) ggL_law_X5_days
set_option maxRecDepth 20000 in
theorem ggL_law_X6_days : GoodIn wsL_law wsX6_days := goodIn_r _ [359, 88, 63, 360, 89, 90, 5, 91, 96, 97, 98, 99, 66, 361, 362, 363, 364, 365, 366, 367, 368, 369, 172, 173, 174, 175, 176, 177, 178, 179, 180, 181, 182, 183, 184, 185, 186, 187, 188, 189, 190, 191, 192, 193, 194, 195, 278, 279, 280, 281, 168, 169, 170, 171, 328, 329, 330, 230, 231, 232, 233, 282, 283, 284, 285, 196, 197, 198, 199, 879, 880, 881, 882, 883, 884, 885, 886, 887, 888, 889, 890, 891, 892, 893, 894] (by decide +kernel) (by decide +kernel)
set_option maxRecDepth 20000 in
theorem gL_law_X6_days : GoodIn wsL_law (wsV RL 55 RX6 yX6_days wsX6_days) := goodIn_app (goodIn_of _ (by decide +kernel)) ggL_law_X6_days
set_option maxRecDepth 20000 in
theorem ggL_law_X5_on : GoodIn wsL_law wsX5_on := goodIn_r _ [373, 75, 240, 243, 244, 245, 2, 246, 16, 247, 77, 78, 79, 80, 81, 82, 83, 33, 374, 375, 376, 377, 17, 378, 379, 380, 15, 381, 119, 148, 353, 131, 38, 382, 383, 384, 385, 39, 40, 41, 42, 43, 336, 337, 338, 339, 340, 341, 342, 343, 344, 153, 154, 155, 345, 128, 129, 130, 132, 133, 134, 135, 136, 137, 138, 139, 140, 141, 142, 143, 144, 145, 146, 147, 149, 150, 151, 152, 346, 347, 348, 349, 350, 351, 352, 354, 253, 254, 255, 256, 116, 117, 118, 120, 121, 122, 123, 257, 258, 259, 355, 263, 264, 265, 266, 267, 268, 269, 124, 125, 126, 895, 896, 897, 898, 899, 900, 901, 902, 903, 904, 871, 872, 873, 874, 875, 876, 877, 878] (by decide +kernel) (by decide +kernel)
set_option maxRecDepth 20000 in
theorem gL_law_X5_on : GoodIn wsL_law (wsV RL 56 RX5 yX5_on wsX5_on) := goodIn_app (goodIn_of _ (by decide +kernel)) ggL_law_X5_on
set_option maxRecDepth 20000 in
theorem ggL_law_X6_on : GoodIn wsL_law wsX6_on := goodIn_r _ [389, 88, 274, 275, 276, 5, 277, 63, 89, 90, 91, 96, 97, 98, 99, 66, 390, 391, 392, 393, 65, 394, 395, 396, 361, 362, 363, 364, 365, 366, 367, 368, 369, 172, 173, 174, 175, 176, 177, 178, 179, 180, 181, 182, 183, 184, 185, 186, 187, 188, 189, 190, 191, 192, 193, 194, 195, 278, 279, 280, 281, 168, 169, 170, 171, 328, 329, 330, 230, 231, 232, 233, 282, 283, 284, 285, 397, 398, 399, 400, 879, 880, 881, 882, 883, 884, 885, 886, 887, 888, 889, 890, 891, 892, 893, 894] (by decide +kernel) (by decide +kernel)
set_option maxRecDepth 20000 in
theorem gL_law_X6_on : GoodIn wsL_law (wsV RL 59 RX6 yX6_on wsX6_on) := goodIn_app (goodIn_of _ (by decide +kernel)) ggL_law_X6_on
set_option maxRecDepth 20000 in
theorem ggL_law_X5_then : GoodIn wsL_law wsX5_then := goodIn_r _ [404, 75, 76, 114, 247, 77, 78, 2, 79, 80, 81, 82, 83, 33, 374, 375, 376, 377, 17, 16, 378, 379, 380, 15, 381, 119, 148, 353, 131, 38, 382, 383, 384, 385, 39, 40, 41, 42, 43, 336, 337, 338, 339, 340, 341, 342, 343, 344, 153, 154, 155, 345, 128, 129, 130, 132, 133, 134, 135, 136, 137, 138, 139, 140, 141, 142, 143, 144, 145, 146, 147, 149, 150, 151, 152, 346, 347, 348, 349, 350, 351, 352, 354, 253, 254, 255, 256, 116, 117, 118, 120, 121, 122, 123, 257, 258, 259, 355, 263, 264, 265, 266, 267, 268, 260, 895, 896, 897, 898, 899, 900, 901, 902, 903, 904, 871, 872, 873, 874, 875, 876, 877, 878] (by decide +kernel) (by decide +kernel)
set_option maxRecDepth 20000 in
theorem gL_law_X5_then : GoodIn wsL_law (wsV RL 60 RX5 yX5_then wsX5_then) := goodIn_app (goodIn_of _ (by decide +kernel)) ggL_law_X5_then
set_option maxRecDepth 20000 in
theorem ggL_law_X6_then : GoodIn wsL_law wsX6_then := goodIn_r _ [408, 88, 63, 89, 90, 5, 91, 96, 97, 98, 99, 66, 390, 391, 392, 393, 65, 394, 395, 396, 361, 362, 363, 364, 365, 366, 367, 368, 369, 172, 173, 174, 175, 176, 177, 178, 179, 180, 181, 182, 183, 184, 185, 186, 187, 188, 189, 190, 191, 192, 193, 194, 195, 278, 279, 280, 281, 168, 169, 170, 171, 328, 329, 330, 230, 231, 232, 233, 282, 283, 284, 285, 196, 197, 198, 199, 409, 410, 411, 397, 398, 399, 400, 879, 880, 881, 882, 883, 884, 885, 886, 887, 888, 889, 890, 891, 892, 893, 894] (by decide +kernel) (by decide +kernel)
set_option maxRecDepth 20000 in
theorem gL_law_X6_then : GoodIn wsL_law (wsV RL 63 RX6 yX6_then wsX6_then) := goodIn_app (goodIn_of _ (by decide +kernel)) ggL_law_X6_then
set_option maxRecDepth 20000 in
theorem ggL_law_X5_done : GoodIn wsL_law wsX5_done := goodIn_r _ [415, 75, 243, 244, 245, 2, 246, 16, 247, 77, 78, 79, 80, 81, 82, 83, 33, 374, 375, 376, 377, 17, 378, 379, 380, 15, 381, 119, 148, 353, 131, 38, 382, 383, 384, 385, 39, 40, 41, 42, 43, 416, 417, 418, 419, 420, 136, 137, 138, 139, 140, 141, 142, 143, 340, 341, 342, 343, 344, 153, 154, 155, 345, 128, 129, 130, 132, 133, 134, 135, 144, 145, 146, 147, 149, 150, 151, 152, 346, 347, 348, 349, 350, 351, 352, 354, 253, 254, 255, 256, 116, 117, 118, 120, 121, 122, 123, 257, 258, 259, 355, 263, 264, 265, 266, 267, 268, 421, 422, 423, 424, 425, 426, 871, 872, 873, 874, 875, 876, 877, 878, 895, 896, 897, 898, 899, 900, 901, 902, 903, 904] (by decide +kernel) (by decide +kernel)
set_option maxRecDepth 20000 in
theorem gL_law_X5_done : GoodIn wsL_law (wsV RL 64 RX5 yX5_done wsX5_done) := goodIn_app (goodIn_of _ (by decide +kernel)) ggL_law_X5_done
