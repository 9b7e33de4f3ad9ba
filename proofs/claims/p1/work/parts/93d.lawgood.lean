set_option maxRecDepth 20000 in
theorem ggL_law_X6_saysYes : GoodIn wsL_law wsX6_saysYes := goodIn_r _ [263, 13, 33, 264, 265, 266, 128, 129, 2, 130, 267, 268, 269, 270, 271, 272, 273, 274, 178, 179, 40, 180, 80, 275, 276, 277, 32, 278, 69, 70, 166, 167, 168, 169, 170, 171, 279, 280, 281, 282, 921, 922, 923, 924, 925, 926, 927, 928, 929, 930, 931, 932, 990, 991, 992, 993, 994, 995, 996, 997, 998, 988, 989] (by decide +kernel) (by decide +kernel)
set_option maxRecDepth 20000 in
theorem gL_law_X6_saysYes : GoodIn wsL_law (wsV RL 31 RX6 yX6_saysYes wsX6_saysYes) := goodIn_app (goodIn_of _ (by decide +kernel)) ggL_law_X6_saysYes
set_option maxRecDepth 20000 in
theorem ggL_law_X7_saysYes : GoodIn wsL_law wsX7_saysYes := goodIn_r _ [286, 190, 191, 5, 192, 193, 194, 195, 287, 288, 289, 290, 217, 218, 219, 220, 99, 221, 222, 223, 224, 98, 225, 226, 227, 228, 95, 107, 108, 101, 102, 103, 104, 100, 229, 230, 231, 232, 106, 233, 234, 235, 236, 96, 237, 238, 239, 240, 241, 242, 243, 244, 245, 246, 247, 248, 249, 250, 251, 291, 292, 293, 294, 295, 296, 297, 298, 299, 105, 300, 301, 302, 303, 304, 305, 306, 307, 308, 94, 309, 310, 311, 312, 933, 934, 935, 936, 937, 938, 939, 940, 941, 942, 943, 944, 945, 946, 947, 948, 949, 950, 951, 952, 953, 954, 955, 956, 957, 958, 959, 960, 961, 962, 963, 964, 965, 966, 967, 968, 969, 970, 971, 972, 973, 974] (by decide +kernel) (by decide +kernel)
set_option maxRecDepth 20000 in
theorem gL_law_X7_saysYes : GoodIn wsL_law (wsV RL 35 RX7 yX7_saysYes wsX7_saysYes) := goodIn_app (goodIn_of _ (by decide +kernel)) ggL_law_X7_saysYes
set_option maxRecDepth 20000 in
theorem ggL_law_X6_unit : GoodIn wsL_law wsX6_unit := goodIn_r _ [316, 13, 266, 128, 129, 2, 130, 274, 178, 179, 40, 180, 80, 921, 922, 923, 924, 925, 926, 927, 928, 929, 930, 931, 932, 990, 991, 992, 993, 994, 995, 996, 997, 998] (by decide +kernel) (by decide +kernel)
set_option maxRecDepth 20000 in
theorem gL_law_X6_unit : GoodIn wsL_law (wsV RL 36 RX6 yX6_unit wsX6_unit) := goodIn_app (goodIn_of _ (by decide +kernel)) ggL_law_X6_unit
set_option maxRecDepth 20000 in
theorem ggL_law_X7_unit : GoodIn wsL_law wsX7_unit := goodIn_r _ [320, 190, 191, 5, 192, 193, 194, 195, 321, 322, 323, 324, 94, 217, 218, 219, 220, 99, 221, 222, 223, 224, 98, 225, 226, 227, 228, 95, 107, 108, 101, 102, 103, 104, 100, 229, 230, 231, 232, 106, 233, 234, 235, 236, 96, 237, 238, 239, 240, 241, 242, 243, 244, 245, 246, 247, 248, 249, 250, 251, 295, 296, 297, 298, 299, 105, 300, 301, 302, 303, 304, 305, 306, 307, 308, 933, 934, 935, 936, 937, 938, 939, 940, 941, 942, 943, 944, 945, 946, 947, 948, 949, 950, 951, 952, 953, 954, 955, 956, 957, 958, 959, 960, 961, 962, 963, 964, 965, 966, 967, 968, 969, 970, 971, 972, 973, 974] (by decide +kernel) (by decide +kernel)
set_option maxRecDepth 20000 in
theorem gL_law_X7_unit : GoodIn wsL_law (wsV RL 39 RX7 yX7_unit wsX7_unit) := goodIn_app (goodIn_of _ (by decide +kernel)) ggL_law_X7_unit
set_option maxRecDepth 20000 in
theorem ggL_law_X6_pass : GoodIn wsL_law wsX6_pass := goodIn_r _ [328, 34, 921, 922, 923, 924, 925, 926, 927, 928, 929, 930, 931, 932] (by decide +kernel) (by decide +kernel)
set_option maxRecDepth 20000 in
theorem gL_law_X6_pass : GoodIn wsL_law (wsV RL 40 RX6 yX6_pass wsX6_pass) := goodIn_app (goodIn_of _ (by decide +kernel)) ggL_law_X6_pass
set_option maxRecDepth 20000 in
theorem ggL_law_X7_pass : GoodIn wsL_law wsX7_pass := goodIn_r _ [332, 333, 193, 194, 5, 195, 933, 934, 935, 936, 937, 938, 939, 940, 941, 942, 943, 944, 945, 946, 947, 948, 949, 950, 951, 952, 953, 954, 955, 956, 957, 958, 959, 960, 961, 962, 963, 964, 965, 966, 967, 968, 969, 970, 971, 972, 973, 974] (by decide +kernel) (by decide +kernel)
set_option maxRecDepth 20000 in
theorem gL_law_X7_pass : GoodIn wsL_law (wsV RL 43 RX7 yX7_pass wsX7_pass) := goodIn_app (goodIn_of _ (by decide +kernel)) ggL_law_X7_pass
set_option maxRecDepth 20000 in
theorem ggL_law_X6_group : GoodIn wsL_law wsX6_group := goodIn_r _ [337, 17, 338, 339, 2, 340, 341, 342, 343, 921, 922, 923, 924, 925, 926, 927, 928, 929, 930, 931, 932] (by decide +kernel) (by decide +kernel)
set_option maxRecDepth 20000 in
theorem gL_law_X6_group : GoodIn wsL_law (wsV RL 44 RX6 yX6_group wsX6_group) := goodIn_app (goodIn_of _ (by decide +kernel)) ggL_law_X6_group
set_option maxRecDepth 20000 in
theorem ggL_law_X7_group : GoodIn wsL_law wsX7_group := goodIn_r _ [347, 110, 348, 349, 5, 350, 193, 194, 195, 351, 352, 353, 933, 934, 935, 936, 937, 938, 939, 940, 941, 942, 943, 944, 945, 946, 947, 948, 949, 950, 951, 952, 953, 954, 955, 956, 957, 958, 959, 960, 961, 962, 963, 964, 965, 966, 967, 968, 969, 970, 971, 972, 973, 974] (by decide +kernel) (by decide +kernel)
set_option maxRecDepth 20000 in
theorem gL_law_X7_group : GoodIn wsL_law (wsV RL 47 RX7 yX7_group wsX7_group) := goodIn_app (goodIn_of _ (by decide +kernel)) ggL_law_X7_group
set_option maxRecDepth 20000 in
theorem ggL_law_X6_answer : GoodIn wsL_law wsX6_answer := goodIn_r _ [357, 13, 21, 34, 338, 339, 2, 340, 128, 129, 130, 267, 268, 269, 274, 178, 179, 40, 180, 80, 358, 359, 360, 20, 361, 54, 46, 47, 48, 49, 50, 921, 922, 923, 924, 925, 926, 927, 928, 929, 930, 931, 932, 990, 991, 992, 993, 994, 995, 996, 997, 998, 975, 976, 977, 978, 979, 980, 981, 982, 983] (by decide +kernel) (by decide +kernel)
set_option maxRecDepth 20000 in
theorem gL_law_X6_answer : GoodIn wsL_law (wsV RL 48 RX6 yX6_answer wsX6_answer) := goodIn_app (goodIn_of _ (by decide +kernel)) ggL_law_X6_answer
set_option maxRecDepth 20000 in
theorem ggL_law_X7_answer : GoodIn wsL_law wsX7_answer := goodIn_r _ [365, 366, 367, 368, 5, 369, 370, 111, 112, 113, 114, 333, 115, 348, 349, 350, 193, 194, 195, 190, 191, 192, 217, 218, 219, 220, 99, 221, 222, 223, 224, 98, 225, 226, 227, 228, 95, 107, 108, 101, 102, 103, 104, 100, 229, 230, 231, 232, 106, 233, 234, 235, 236, 96, 237, 238, 239, 240, 241, 242, 243, 244, 245, 246, 247, 248, 249, 250, 251, 933, 934, 935, 936, 937, 938, 939, 940, 941, 942, 943, 944, 945, 946, 947, 948, 949, 950, 951, 952, 953, 954, 955, 956, 957, 958, 959, 960, 961, 962, 963, 964, 965, 966, 967, 968, 969, 970, 971, 972, 973, 974] (by decide +kernel) (by decide +kernel)
set_option maxRecDepth 20000 in
theorem gL_law_X7_answer : GoodIn wsL_law (wsV RL 52 RX7 yX7_answer wsX7_answer) := goodIn_app (goodIn_of _ (by decide +kernel)) ggL_law_X7_answer
