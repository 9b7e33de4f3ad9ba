set_option maxRecDepth 20000 in
theorem ggL_law_X6_read : GoodIn wsL_law wsX6_read := goodIn_r _ [374, 15, 13, 375, 376, 21, 34, 377, 378, 2, 379, 128, 129, 130, 380, 381, 382, 42, 383, 88, 384, 385, 386, 387, 38, 274, 178, 179, 40, 180, 80, 338, 339, 340, 267, 268, 269, 358, 359, 360, 20, 361, 54, 46, 47, 48, 49, 50, 921, 922, 923, 924, 925, 926, 927, 928, 929, 930, 931, 932, 999, 1000, 1001, 990, 991, 992, 993, 994, 995, 996, 997, 998, 975, 976, 977, 978, 979, 980, 981, 982, 983] (by decide +kernel) (by decide +kernel)
set_option maxRecDepth 20000 in
theorem gL_law_X6_read : GoodIn wsL_law (wsV RL 53 RX6 yX6_read wsX6_read) := goodIn_app (goodIn_of _ (by decide +kernel)) ggL_law_X6_read
set_option maxRecDepth 20000 in
theorem ggL_law_X7_read : GoodIn wsL_law wsX7_read := goodIn_r _ [391, 118, 120, 121, 392, 393, 5, 394, 193, 194, 195, 190, 191, 192, 395, 396, 397, 398, 399, 217, 218, 219, 220, 99, 221, 222, 223, 224, 98, 225, 226, 227, 228, 95, 107, 108, 101, 102, 103, 104, 100, 229, 230, 231, 232, 106, 233, 234, 235, 236, 96, 237, 238, 239, 240, 241, 242, 243, 244, 245, 246, 247, 248, 249, 250, 251, 366, 367, 368, 369, 370, 111, 112, 113, 114, 333, 115, 348, 349, 350, 933, 934, 935, 936, 937, 938, 939, 940, 941, 942, 943, 944, 945, 946, 947, 948, 949, 950, 951, 952, 953, 954, 955, 956, 957, 958, 959, 960, 961, 962, 963, 964, 965, 966, 967, 968, 969, 970, 971, 972, 973, 974] (by decide +kernel) (by decide +kernel)
set_option maxRecDepth 20000 in
theorem gL_law_X7_read : GoodIn wsL_law (wsV RL 56 RX7 yX7_read wsX7_read) := goodIn_app (goodIn_of _ (by decide +kernel)) ggL_law_X7_read
set_option maxRecDepth 20000 in
theorem ggL_law_X6_takeBack : GoodIn wsL_law wsX6_takeBack := goodIn_r _ [403, 21, 404, 34, 405, 406, 407, 20, 408, 54, 921, 922, 923, 924, 925, 926, 927, 928, 929, 930, 931, 932, 975, 976, 977, 978, 979, 980, 981, 982, 983] (by decide +kernel) (by decide +kernel)
set_option maxRecDepth 20000 in
theorem gL_law_X6_takeBack : GoodIn wsL_law (wsV RL 57 RX6 yX6_takeBack wsX6_takeBack) := goodIn_app (goodIn_of _ (by decide +kernel)) ggL_law_X6_takeBack
set_option maxRecDepth 20000 in
theorem ggL_law_X7_takeBack : GoodIn wsL_law wsX7_takeBack := goodIn_r _ [412, 115, 333, 413, 414, 415, 5, 416, 370, 193, 194, 195, 933, 934, 935, 936, 937, 938, 939, 940, 941, 942, 943, 944, 945, 946, 947, 948, 949, 950, 951, 952, 953, 954, 955, 956, 957, 958, 959, 960, 961, 962, 963, 964, 965, 966, 967, 968, 969, 970, 971, 972, 973, 974] (by decide +kernel) (by decide +kernel)
set_option maxRecDepth 20000 in
theorem gL_law_X7_takeBack : GoodIn wsL_law (wsV RL 60 RX7 yX7_takeBack wsX7_takeBack) := goodIn_app (goodIn_of _ (by decide +kernel)) ggL_law_X7_takeBack
set_option maxRecDepth 20000 in
theorem ggL_law_X6_about : GoodIn wsL_law wsX6_about := goodIn_r _ [420, 21, 421, 422, 423, 424, 404, 405, 406, 407, 20, 408, 54, 425, 426, 427, 2, 428, 35, 34, 429, 430, 431, 432, 49, 50, 921, 922, 923, 924, 925, 926, 927, 928, 929, 930, 931, 932, 975, 976, 977, 978, 979, 980, 981, 982, 983] (by decide +kernel) (by decide +kernel)
set_option maxRecDepth 20000 in
theorem gL_law_X6_about : GoodIn wsL_law (wsV RL 61 RX6 yX6_about wsX6_about) := goodIn_app (goodIn_of _ (by decide +kernel)) ggL_law_X6_about
set_option maxRecDepth 20000 in
theorem ggL_law_X7_about : GoodIn wsL_law wsX7_about := goodIn_r _ [436, 111, 112, 113, 114, 115, 413, 414, 415, 5, 416, 370, 193, 194, 195, 437, 438, 439, 440, 109, 333, 933, 934, 935, 936, 937, 938, 939, 940, 941, 942, 943, 944, 945, 946, 947, 948, 949, 950, 951, 952, 953, 954, 955, 956, 957, 958, 959, 960, 961, 962, 963, 964, 965, 966, 967, 968, 969, 970, 971, 972, 973, 974] (by decide +kernel) (by decide +kernel)
set_option maxRecDepth 20000 in
theorem gL_law_X7_about : GoodIn wsL_law (wsV RL 64 RX7 yX7_about wsX7_about) := goodIn_app (goodIn_of _ (by decide +kernel)) ggL_law_X7_about
set_option maxRecDepth 20000 in
theorem ggL_law_X6_asOf : GoodIn wsL_law wsX6_asOf := goodIn_r _ [444, 34, 35, 921, 922, 923, 924, 925, 926, 927, 928, 929, 930, 931, 932] (by decide +kernel) (by decide +kernel)
set_option maxRecDepth 20000 in
theorem gL_law_X6_asOf : GoodIn wsL_law (wsV RL 65 RX6 yX6_asOf wsX6_asOf) := goodIn_app (goodIn_of _ (by decide +kernel)) ggL_law_X6_asOf
set_option maxRecDepth 20000 in
theorem ggL_law_X7_asOf : GoodIn wsL_law wsX7_asOf := goodIn_r _ [448, 333, 109, 193, 194, 5, 195, 933, 934, 935, 936, 937, 938, 939, 940, 941, 942, 943, 944, 945, 946, 947, 948, 949, 950, 951, 952, 953, 954, 955, 956, 957, 958, 959, 960, 961, 962, 963, 964, 965, 966, 967, 968, 969, 970, 971, 972, 973, 974] (by decide +kernel) (by decide +kernel)
set_option maxRecDepth 20000 in
theorem gL_law_X7_asOf : GoodIn wsL_law (wsV RL 68 RX7 yX7_asOf wsX7_asOf) := goodIn_app (goodIn_of _ (by decide +kernel)) ggL_law_X7_asOf
set_option maxRecDepth 20000 in
theorem ggL_law_X6_poll : GoodIn wsL_law wsX6_poll := goodIn_r _ [452, 25, 453, 454, 341, 342, 2, 343, 128, 129, 130, 267, 268, 269, 455, 456, 457, 458, 21, 459, 421, 422, 17, 423, 460, 461, 462, 24, 463, 58, 59, 60, 425, 426, 427, 428, 35, 34, 429, 430, 431, 20, 432, 49, 50, 464, 465, 466, 467, 921, 922, 923, 924, 925, 926, 927, 928, 929, 930, 931, 932, 984, 985, 986, 975, 976, 977, 978, 979, 980, 981, 982, 983] (by decide +kernel) (by decide +kernel)
set_option maxRecDepth 20000 in
theorem gL_law_X6_poll : GoodIn wsL_law (wsV RL 69 RX6 yX6_poll wsX6_poll) := goodIn_app (goodIn_of _ (by decide +kernel)) ggL_law_X6_poll
set_option maxRecDepth 20000 in
theorem ggL_law_X7_poll : GoodIn wsL_law wsX7_poll := goodIn_r _ [471, 472, 473, 474, 475, 5, 476, 351, 352, 353, 193, 194, 195, 190, 191, 192, 477, 478, 479, 480, 370, 111, 112, 110, 113, 437, 438, 439, 440, 109, 333, 114, 115, 933, 934, 935, 936, 937, 938, 939, 940, 941, 942, 943, 944, 945, 946, 947, 948, 949, 950, 951, 952, 953, 954, 955, 956, 957, 958, 959, 960, 961, 962, 963, 964, 965, 966, 967, 968, 969, 970, 971, 972, 973, 974] (by decide +kernel) (by decide +kernel)
set_option maxRecDepth 20000 in
theorem gL_law_X7_poll : GoodIn wsL_law (wsV RL 72 RX7 yX7_poll wsX7_poll) := goodIn_app (goodIn_of _ (by decide +kernel)) ggL_law_X7_poll
