set_option maxRecDepth 20000 in
theorem ggL_law_X6_limit : GoodIn wsL_law wsX6_limit := goodIn_r _ [717, 37, 921, 922, 923, 924, 925, 926, 927, 928, 929, 930, 931, 932] (by decide +kernel) (by decide +kernel)
set_option maxRecDepth 20000 in
theorem gL_law_X6_limit : GoodIn wsL_law (wsV RL 115 RX6 yX6_limit wsX6_limit) := goodIn_app (goodIn_of _ (by decide +kernel)) ggL_law_X6_limit
set_option maxRecDepth 20000 in
theorem ggL_law_X7_limit : GoodIn wsL_law wsX7_limit := goodIn_r _ [721, 117, 193, 194, 5, 195, 933, 934, 935, 936, 937, 938, 939, 940, 941, 942, 943, 944, 945, 946, 947, 948, 949, 950, 951, 952, 953, 954, 955, 956, 957, 958, 959, 960, 961, 962, 963, 964, 965, 966, 967, 968, 969, 970, 971, 972, 973, 974] (by decide +kernel) (by decide +kernel)
set_option maxRecDepth 20000 in
theorem gL_law_X7_limit : GoodIn wsL_law (wsV RL 118 RX7 yX7_limit wsX7_limit) := goodIn_app (goodIn_of _ (by decide +kernel)) ggL_law_X7_limit
set_option maxRecDepth 20000 in
theorem ggL_law_X6_may : GoodIn wsL_law wsX6_may := goodIn_r _ [725, 13, 338, 339, 2, 340, 128, 129, 130, 274, 178, 179, 40, 180, 80, 726, 727, 728, 729, 21, 730, 33, 666, 667, 489, 490, 491, 492, 81, 82, 702, 703, 704, 705, 83, 643, 644, 645, 646, 647, 648, 422, 423, 649, 425, 426, 427, 428, 35, 34, 650, 651, 652, 20, 653, 51, 53, 54, 47, 46, 52, 654, 655, 145, 656, 657, 430, 431, 432, 49, 50, 658, 659, 660, 661, 629, 540, 541, 542, 275, 276, 277, 32, 278, 69, 70, 166, 167, 168, 169, 170, 171, 662, 663, 664, 665, 630, 536, 537, 538, 668, 669, 670, 671, 731, 732, 733, 734, 37, 921, 922, 923, 924, 925, 926, 927, 928, 929, 930, 931, 932, 990, 991, 992, 993, 994, 995, 996, 997, 998, 975, 976, 977, 978, 979, 980, 981, 982, 983, 988, 989] (by decide +kernel) (by decide +kernel)
set_option maxRecDepth 20000 in
theorem gL_law_X6_may : GoodIn wsL_law (wsV RL 119 RX6 yX6_may wsX6_may) := goodIn_app (goodIn_of _ (by decide +kernel)) ggL_law_X6_may
set_option maxRecDepth 20000 in
theorem ggL_law_X7_may : GoodIn wsL_law wsX7_may := goodIn_r _ [738, 348, 349, 5, 350, 193, 194, 195, 190, 191, 192, 217, 218, 219, 220, 99, 221, 222, 223, 224, 98, 225, 226, 227, 228, 95, 107, 108, 101, 102, 103, 104, 100, 229, 230, 231, 232, 106, 233, 234, 235, 236, 96, 237, 238, 239, 240, 241, 242, 243, 244, 245, 246, 247, 248, 249, 250, 251, 739, 740, 741, 742, 370, 111, 112, 308, 94, 437, 438, 439, 440, 109, 333, 114, 115, 501, 502, 503, 504, 295, 296, 297, 298, 299, 105, 710, 711, 712, 713, 300, 301, 302, 303, 680, 681, 682, 683, 684, 116, 113, 685, 635, 636, 637, 638, 304, 305, 306, 307, 743, 744, 745, 746, 117, 933, 934, 935, 936, 937, 938, 939, 940, 941, 942, 943, 944, 945, 946, 947, 948, 949, 950, 951, 952, 953, 954, 955, 956, 957, 958, 959, 960, 961, 962, 963, 964, 965, 966, 967, 968, 969, 970, 971, 972, 973, 974] (by decide +kernel) (by decide +kernel)
set_option maxRecDepth 20000 in
theorem gL_law_X7_may : GoodIn wsL_law (wsV RL 122 RX7 yX7_may wsX7_may) := goodIn_app (goodIn_of _ (by decide +kernel)) ggL_law_X7_may
set_option maxRecDepth 20000 in
theorem ggL_law_X6_best : GoodIn wsL_law wsX6_best := goodIn_r _ [750, 267, 268, 2, 269, 751, 752, 753, 754, 755, 756, 599, 757] (by decide +kernel) (by decide +kernel)
set_option maxRecDepth 20000 in
theorem gL_law_X6_best : GoodIn wsL_law (wsV RL 123 RX6 yX6_best wsX6_best) := goodIn_app (goodIn_of _ (by decide +kernel)) ggL_law_X6_best
set_option maxRecDepth 20000 in
theorem ggL_law_X7_best : GoodIn wsL_law wsX7_best := goodIn_r _ [761, 762, 193, 194, 5, 195] (by decide +kernel) (by decide +kernel)
set_option maxRecDepth 20000 in
theorem gL_law_X7_best : GoodIn wsL_law (wsV RL 126 RX7 yX7_best wsX7_best) := goodIn_app (goodIn_of _ (by decide +kernel)) ggL_law_X7_best
set_option maxRecDepth 20000 in
theorem ggL_law_X6_parted : GoodIn wsL_law wsX6_parted := goodIn_r _ [766, 15, 375, 13, 33, 377, 378, 2, 379, 128, 129, 130, 267, 268, 269, 270, 271, 272, 273, 380, 381, 382, 42, 383, 88, 384, 385, 386, 387, 38, 767, 768, 769, 376, 770, 274, 178, 179, 40, 180, 80, 489, 490, 491, 492, 81, 82, 771, 772, 773, 774, 775, 776, 777, 778, 83, 493, 494, 495, 496, 275, 276, 277, 32, 278, 69, 70, 166, 167, 168, 169, 170, 171, 279, 280, 281, 282, 921, 922, 923, 924, 925, 926, 927, 928, 929, 930, 931, 932, 999, 1000, 1001, 990, 991, 992, 993, 994, 995, 996, 997, 998, 988, 989] (by decide +kernel) (by decide +kernel)
set_option maxRecDepth 20000 in
theorem gL_law_X6_parted : GoodIn wsL_law (wsV RL 127 RX6 yX6_parted wsX6_parted) := goodIn_app (goodIn_of _ (by decide +kernel)) ggL_law_X6_parted
set_option maxRecDepth 20000 in
theorem ggL_law_X7_parted : GoodIn wsL_law wsX7_parted := goodIn_r _ [782, 118, 120, 121, 392, 393, 5, 394, 193, 194, 195, 190, 191, 192, 291, 292, 293, 294, 395, 396, 397, 398, 399, 217, 218, 219, 220, 99, 221, 222, 223, 224, 98, 225, 226, 227, 228, 95, 107, 108, 101, 102, 103, 104, 100, 229, 230, 231, 232, 106, 233, 234, 235, 236, 96, 237, 238, 239, 240, 241, 242, 243, 244, 245, 246, 247, 248, 249, 250, 251, 501, 502, 503, 504, 295, 296, 297, 298, 299, 105, 783, 784, 785, 786, 300, 301, 302, 303, 304, 305, 306, 307, 308, 94, 309, 310, 311, 312, 933, 934, 935, 936, 937, 938, 939, 940, 941, 942, 943, 944, 945, 946, 947, 948, 949, 950, 951, 952, 953, 954, 955, 956, 957, 958, 959, 960, 961, 962, 963, 964, 965, 966, 967, 968, 969, 970, 971, 972, 973, 974] (by decide +kernel) (by decide +kernel)
set_option maxRecDepth 20000 in
theorem gL_law_X7_parted : GoodIn wsL_law (wsV RL 131 RX7 yX7_parted wsX7_parted) := goodIn_app (goodIn_of _ (by decide +kernel)) ggL_law_X7_parted
set_option maxRecDepth 20000 in
theorem ggL_law_X6_kept : GoodIn wsL_law wsX6_kept := goodIn_r _ [790, 13, 29, 25, 453, 454, 485, 486, 487, 2, 488, 341, 342, 343, 128, 129, 130, 267, 268, 269, 455, 456, 457, 458, 21, 459, 421, 422, 17, 423, 460, 461, 462, 24, 463, 58, 59, 60, 425, 426, 427, 428, 35, 34, 429, 430, 431, 20, 432, 49, 50, 464, 465, 466, 467, 274, 178, 179, 40, 180, 80, 489, 490, 491, 492, 81, 82, 517, 518, 519, 520, 521, 522, 523, 524, 83, 493, 494, 495, 496, 529, 530, 531, 28, 532, 65, 533, 534, 144, 145, 146, 535, 536, 537, 538, 539, 540, 541, 542, 543, 544, 545, 546, 547, 548, 549, 550, 551, 552, 170, 553, 609, 610, 611, 612, 921, 922, 923, 924, 925, 926, 927, 928, 929, 930, 931, 932, 984, 985, 986, 975, 976, 977, 978, 979, 980, 981, 982, 983, 990, 991, 992, 993, 994, 995, 996, 997, 998, 987] (by decide +kernel) (by decide +kernel)
set_option maxRecDepth 20000 in
theorem gL_law_X6_kept : GoodIn wsL_law (wsV RL 132 RX6 yX6_kept wsX6_kept) := goodIn_app (goodIn_of _ (by decide +kernel)) ggL_law_X6_kept
set_option maxRecDepth 20000 in
theorem ggL_law_X7_kept : GoodIn wsL_law wsX7_kept := goodIn_r _ [794, 472, 473, 474, 475, 5, 476, 351, 352, 353, 193, 194, 195, 190, 191, 192, 477, 478, 479, 480, 370, 111, 112, 110, 113, 437, 438, 439, 440, 109, 333, 114, 115, 217, 218, 219, 220, 99, 221, 222, 223, 224, 98, 225, 226, 227, 228, 95, 107, 108, 101, 102, 103, 104, 100, 229, 230, 231, 232, 106, 233, 234, 235, 236, 96, 237, 238, 239, 240, 241, 242, 243, 244, 245, 246, 247, 248, 249, 250, 251, 501, 502, 503, 504, 295, 296, 297, 298, 299, 105, 558, 559, 560, 561, 562, 563, 564, 321, 322, 323, 324, 94, 300, 301, 302, 303, 304, 305, 306, 307, 308, 617, 618, 619, 620, 565, 566, 567, 568, 569, 570, 571, 572, 573, 574, 621, 622, 623, 624, 933, 934, 935, 936, 937, 938, 939, 940, 941, 942, 943, 944, 945, 946, 947, 948, 949, 950, 951, 952, 953, 954, 955, 956, 957, 958, 959, 960, 961, 962, 963, 964, 965, 966, 967, 968, 969, 970, 971, 972, 973, 974] (by decide +kernel) (by decide +kernel)
set_option maxRecDepth 20000 in
theorem gL_law_X7_kept : GoodIn wsL_law (wsV RL 135 RX7 yX7_kept wsX7_kept) := goodIn_app (goodIn_of _ (by decide +kernel)) ggL_law_X7_kept
