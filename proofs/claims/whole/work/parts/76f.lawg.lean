set_option maxRecDepth 20000 in
theorem ggL_law_X6_due : GoodIn wsL_law wsX6_due := goodIn_r _ [532, 88, 65, 274, 275, 276, 5, 277, 63, 89, 90, 91, 96, 97, 98, 99, 66, 390, 391, 392, 393, 394, 395, 396, 230, 231, 232, 233, 431, 432, 433, 434, 176, 177, 178, 179, 180, 181, 182, 183, 184, 185, 186, 187, 365, 366, 367, 368, 369, 172, 173, 174, 175, 188, 189, 190, 191, 192, 193, 194, 195, 278, 279, 280, 281, 168, 169, 170, 171, 328, 329, 330, 282, 283, 284, 285, 397, 398, 399, 400, 435, 436, 437, 438, 439, 879, 880, 881, 882, 883, 884, 885, 886, 887, 888, 889, 890, 891, 892, 893, 894] (by decide +kernel) (by decide +kernel)
set_option maxRecDepth 20000 in
theorem gL_law_X6_due : GoodIn wsL_law (wsV RL 104 RX6 yX6_due wsX6_due) := goodIn_app (goodIn_of _ (by decide +kernel)) ggL_law_X6_due
set_option maxRecDepth 20000 in
theorem ggL_law_X5_feed : GoodIn wsL_law wsX5_feed := goodIn_r _ [536, 75, 23, 537, 208, 77, 78, 2, 79, 80, 81, 82, 83, 33, 538, 539, 540, 22, 541, 542, 48, 871, 872, 873, 874, 875, 876, 877, 878, 905, 906] (by decide +kernel) (by decide +kernel)
set_option maxRecDepth 20000 in
theorem gL_law_X5_feed : GoodIn wsL_law (wsV RL 105 RX5 yX5_feed wsX5_feed) := goodIn_app (goodIn_of _ (by decide +kernel)) ggL_law_X5_feed
set_option maxRecDepth 20000 in
theorem ggL_law_X6_feed : GoodIn wsL_law wsX6_feed := goodIn_r _ [546, 88, 547, 225, 67, 89, 90, 5, 91, 96, 97, 98, 99, 66, 879, 880, 881, 882, 883, 884, 885, 886, 887, 888, 889, 890, 891, 892, 893, 894] (by decide +kernel) (by decide +kernel)
set_option maxRecDepth 20000 in
theorem gL_law_X6_feed : GoodIn wsL_law (wsV RL 108 RX6 yX6_feed wsX6_feed) := goodIn_app (goodIn_of _ (by decide +kernel)) ggL_law_X6_feed
set_option maxRecDepth 20000 in
theorem ggL_law_X5_wipe : GoodIn wsL_law wsX5_wipe := goodIn_r _ [551, 23, 537, 871, 872, 873, 874, 875, 876, 877, 878, 905, 906] (by decide +kernel) (by decide +kernel)
set_option maxRecDepth 20000 in
theorem gL_law_X5_wipe : GoodIn wsL_law (wsV RL 109 RX5 yX5_wipe wsX5_wipe) := goodIn_app (goodIn_of _ (by decide +kernel)) ggL_law_X5_wipe
set_option maxRecDepth 20000 in
theorem ggL_law_X6_wipe : GoodIn wsL_law wsX6_wipe := goodIn_r _ [555, 547, 879, 880, 881, 882, 883, 884, 885, 886, 887, 888, 889, 890, 891, 892, 893, 894] (by decide +kernel) (by decide +kernel)
set_option maxRecDepth 20000 in
theorem gL_law_X6_wipe : GoodIn wsL_law (wsV RL 112 RX6 yX6_wipe wsX6_wipe) := goodIn_app (goodIn_of _ (by decide +kernel)) ggL_law_X6_wipe
set_option maxRecDepth 20000 in
theorem ggL_law_X5_nursery : GoodIn wsL_law wsX5_nursery := goodIn_r _ [559, 27, 23, 537, 16, 374, 375, 376, 2, 377, 17, 378, 379, 380, 15, 381, 119, 148, 353, 131, 38, 382, 383, 384, 385, 39, 40, 41, 42, 43, 560, 561, 562, 26, 563, 564, 565, 566, 567, 568, 569, 570, 53, 571, 572, 573, 351, 154, 352, 574, 575, 576, 22, 577, 542, 48, 578, 579, 580, 581, 582, 583, 584, 585, 586, 587, 588, 589, 590, 591, 592, 593, 594, 595, 596, 597, 598, 599, 600, 601, 602, 603, 604, 605, 606, 607, 608, 609, 610, 611, 612, 613, 614, 615, 616, 617, 618, 619, 620, 621, 622, 623, 624, 625, 626, 627, 628, 629, 630, 631, 632, 633, 634, 635, 636, 637, 638, 639, 640, 641, 642, 643, 644, 645, 646, 647, 648, 649, 650, 213, 214, 215, 651, 652, 653, 654, 655, 217, 218, 219, 220, 656, 657, 658, 659, 660, 871, 872, 873, 874, 875, 876, 877, 878, 905, 906, 895, 896, 897, 898, 899, 900, 901, 902, 903, 904, 907, 908, 909, 910, 911] (by decide +kernel) (by decide +kernel)
set_option maxRecDepth 20000 in
theorem gL_law_X5_nursery : GoodIn wsL_law (wsV RL 113 RX5 yX5_nursery wsX5_nursery) := goodIn_app (goodIn_of _ (by decide +kernel)) ggL_law_X5_nursery
set_option maxRecDepth 20000 in
theorem ggL_law_X6_nursery : GoodIn wsL_law wsX6_nursery := goodIn_r _ [664, 665, 666, 667, 547, 668, 390, 391, 392, 5, 393, 63, 65, 394, 395, 396, 669, 670, 671, 672, 673, 67, 674, 675, 676, 677, 89, 90, 91, 678, 679, 680, 681, 682, 683, 684, 685, 686, 687, 688, 689, 690, 691, 692, 693, 694, 695, 696, 697, 698, 699, 700, 701, 702, 703, 704, 705, 706, 226, 227, 228, 229, 230, 231, 232, 233, 397, 398, 399, 400, 879, 880, 881, 882, 883, 884, 885, 886, 887, 888, 889, 890, 891, 892, 893, 894] (by decide +kernel) (by decide +kernel)
set_option maxRecDepth 20000 in
theorem gL_law_X6_nursery : GoodIn wsL_law (wsV RL 116 RX6 yX6_nursery wsX6_nursery) := goodIn_app (goodIn_of _ (by decide +kernel)) ggL_law_X6_nursery
set_option maxRecDepth 20000 in
theorem ggL_law_X5_sheet : GoodIn wsL_law wsX5_sheet := goodIn_r _ [710, 75, 711, 712, 713, 714, 715, 2, 716, 29, 77, 78, 79, 80, 81, 82, 83, 33, 717, 718, 719, 31, 720, 721, 722, 351, 154, 352, 723, 153, 155, 724, 58, 912, 913, 914, 871, 872, 873, 874, 875, 876, 877, 878] (by decide +kernel) (by decide +kernel)
set_option maxRecDepth 20000 in
theorem gL_law_X5_sheet : GoodIn wsL_law (wsV RL 117 RX5 yX5_sheet wsX5_sheet) := goodIn_app (goodIn_of _ (by decide +kernel)) ggL_law_X5_sheet
set_option maxRecDepth 20000 in
theorem ggL_law_X6_sheet : GoodIn wsL_law wsX6_sheet := goodIn_r _ [728, 88, 729, 68, 69, 70, 730, 731, 5, 732, 89, 90, 91, 96, 97, 98, 99, 66, 879, 880, 881, 882, 883, 884, 885, 886, 887, 888, 889, 890, 891, 892, 893, 894] (by decide +kernel) (by decide +kernel)
set_option maxRecDepth 20000 in
theorem gL_law_X6_sheet : GoodIn wsL_law (wsV RL 120 RX6 yX6_sheet wsX6_sheet) := goodIn_app (goodIn_of _ (by decide +kernel)) ggL_law_X6_sheet
