set_option maxRecDepth 20000 in
theorem ggL_law_X8_feed : GoodIn wsL_law wsX8_feed := goodIn_r _ [232, 233, 183, 886, 887, 888, 889, 890, 891, 892, 893, 894, 895, 896, 897, 898, 899, 900, 901, 902, 903, 904, 905, 906, 907, 908, 909, 910, 911, 912, 913, 914, 915, 916, 917, 918, 919, 920, 921, 922, 923, 924, 925, 926, 927, 928, 929, 930, 931, 932, 933, 934, 935, 936, 937, 938, 939, 940, 941, 942, 943, 944, 945] (by decide +kernel) (by decide +kernel)
set_option maxRecDepth 20000 in
theorem gL_law_X8_feed : GoodIn wsL_law (wsV RL 17 RX8 yX8_feed wsX8_feed) := goodIn_app (goodIn_of _ (by decide +kernel)) ggL_law_X8_feed
set_option maxRecDepth 20000 in
theorem ggL_law_X7_end : GoodIn wsL_law wsX7_end := goodIn_r _ [237, 15, 220, 875, 876, 877, 878, 879, 880, 881, 882, 883, 884, 885, 946, 947] (by decide +kernel) (by decide +kernel)
set_option maxRecDepth 20000 in
theorem gL_law_X7_end : GoodIn wsL_law (wsV RL 18 RX7 yX7_end wsX7_end) := goodIn_app (goodIn_of _ (by decide +kernel)) ggL_law_X7_end
set_option maxRecDepth 20000 in
theorem ggL_law_X8_end : GoodIn wsL_law wsX8_end := goodIn_r _ [241, 233, 886, 887, 888, 889, 890, 891, 892, 893, 894, 895, 896, 897, 898, 899, 900, 901, 902, 903, 904, 905, 906, 907, 908, 909, 910, 911, 912, 913, 914, 915, 916, 917, 918, 919, 920, 921, 922, 923, 924, 925, 926, 927, 928, 929, 930, 931, 932, 933, 934, 935, 936, 937, 938, 939, 940, 941, 942, 943, 944, 945] (by decide +kernel) (by decide +kernel)
set_option maxRecDepth 20000 in
theorem gL_law_X8_end : GoodIn wsL_law (wsV RL 22 RX8 yX8_end wsX8_end) := goodIn_app (goodIn_of _ (by decide +kernel)) ggL_law_X8_end
set_option maxRecDepth 20000 in
theorem ggL_law_X7_program : GoodIn wsL_law wsX7_program := goodIn_r _ [245, 21, 15, 220, 246, 17, 247, 248, 249, 2, 250, 251, 252, 253, 20, 254, 69, 255, 66, 67, 70, 71, 59, 256, 257, 258, 58, 259, 78, 76, 75, 260, 261, 262, 263, 264, 265, 266, 14, 267, 45, 51, 268, 269, 270, 271, 77, 272, 273, 274, 275, 276, 277, 278, 279, 280, 281, 282, 283, 136, 137, 138, 284, 285, 286, 287, 288, 289, 290, 291, 292, 293, 294, 295, 296, 297, 298, 299, 300, 301, 302, 303, 304, 305, 306, 61, 307, 308, 309, 310, 62, 63, 311, 312, 313, 314, 315, 316, 317, 318, 319, 320, 321, 322, 323, 324, 325, 326, 327, 328, 329, 330, 331, 332, 333, 334, 335, 336, 337, 338, 339, 340, 341, 342, 64, 65, 343, 344, 345, 346, 347, 348, 349, 350, 875, 876, 877, 878, 879, 880, 881, 882, 883, 884, 885, 946, 947, 948, 949, 950, 951, 952, 953, 954, 955, 956, 957, 958, 986, 987, 988, 989, 990, 991, 992, 993, 994] (by decide +kernel) (by decide +kernel)
set_option maxRecDepth 20000 in
theorem gL_law_X7_program : GoodIn wsL_law (wsV RL 23 RX7 yX7_program wsX7_program) := goodIn_app (goodIn_of _ (by decide +kernel)) ggL_law_X7_program
set_option maxRecDepth 20000 in
theorem ggL_law_X8_program : GoodIn wsL_law wsX8_program := goodIn_r _ [354, 355, 185, 233, 356, 184, 183, 357, 190, 358, 359, 186, 187, 188, 189, 360, 361, 5, 362, 363, 364, 365, 366, 367, 368, 369, 370, 371, 372, 373, 374, 375, 376, 377, 378, 379, 380, 381, 382, 383, 384, 385, 386, 387, 388, 389, 390, 391, 392, 393, 394, 395, 396, 397, 398, 399, 400, 401, 402, 403, 404, 405, 406, 407, 408, 409, 410, 411, 412, 413, 193, 191, 414, 415, 416, 417, 418, 419, 420, 421, 422, 423, 424, 425, 426, 427, 428, 429, 194, 192, 430, 431, 432, 433, 434, 435, 436, 437, 886, 887, 888, 889, 890, 891, 892, 893, 894, 895, 896, 897, 898, 899, 900, 901, 902, 903, 904, 905, 906, 907, 908, 909, 910, 911, 912, 913, 914, 915, 916, 917, 918, 919, 920, 921, 922, 923, 924, 925, 926, 927, 928, 929, 930, 931, 932, 933, 934, 935, 936, 937, 938, 939, 940, 941, 942, 943, 944, 945] (by decide +kernel) (by decide +kernel)
set_option maxRecDepth 20000 in
theorem gL_law_X8_program : GoodIn wsL_law (wsV RL 26 RX8 yX8_program wsX8_program) := goodIn_app (goodIn_of _ (by decide +kernel)) ggL_law_X8_program
set_option maxRecDepth 20000 in
theorem ggL_law_X7_fault : GoodIn wsL_law wsX7_fault := goodIn_r _ [441, 21, 246, 442, 875, 876, 877, 878, 879, 880, 881, 882, 883, 884, 885, 948, 949, 950, 951, 952, 953, 954, 955, 956, 957, 958] (by decide +kernel) (by decide +kernel)
set_option maxRecDepth 20000 in
theorem gL_law_X7_fault : GoodIn wsL_law (wsV RL 27 RX7 yX7_fault wsX7_fault) := goodIn_app (goodIn_of _ (by decide +kernel)) ggL_law_X7_fault
set_option maxRecDepth 20000 in
theorem ggL_law_X8_fault : GoodIn wsL_law wsX8_fault := goodIn_r _ [446, 355, 185, 886, 887, 888, 889, 890, 891, 892, 893, 894, 895, 896, 897, 898, 899, 900, 901, 902, 903, 904, 905, 906, 907, 908, 909, 910, 911, 912, 913, 914, 915, 916, 917, 918, 919, 920, 921, 922, 923, 924, 925, 926, 927, 928, 929, 930, 931, 932, 933, 934, 935, 936, 937, 938, 939, 940, 941, 942, 943, 944, 945] (by decide +kernel) (by decide +kernel)
set_option maxRecDepth 20000 in
theorem gL_law_X8_fault : GoodIn wsL_law (wsV RL 30 RX8 yX8_fault wsX8_fault) := goodIn_app (goodIn_of _ (by decide +kernel)) ggL_law_X8_fault
set_option maxRecDepth 20000 in
theorem ggL_law_X7_act : GoodIn wsL_law wsX7_act := goodIn_r _ [450, 17, 247, 451, 452, 453, 454, 455, 248, 249, 2, 250, 875, 876, 877, 878, 879, 880, 881, 882, 883, 884, 885, 986, 987, 988, 989, 990] (by decide +kernel) (by decide +kernel)
set_option maxRecDepth 20000 in
theorem gL_law_X7_act : GoodIn wsL_law (wsV RL 31 RX7 yX7_act wsX7_act) := goodIn_app (goodIn_of _ (by decide +kernel)) ggL_law_X7_act
set_option maxRecDepth 20000 in
theorem ggL_law_X8_act : GoodIn wsL_law wsX8_act := goodIn_r _ [459, 190, 460, 186, 187, 188, 189, 360, 361, 5, 362, 886, 887, 888, 889, 890, 891, 892, 893, 894, 895, 896, 897, 898, 899, 900, 901, 902, 903, 904, 905, 906, 907, 908, 909, 910, 911, 912, 913, 914, 915, 916, 917, 918, 919, 920, 921, 922, 923, 924, 925, 926, 927, 928, 929, 930, 931, 932, 933, 934, 935, 936, 937, 938, 939, 940, 941, 942, 943, 944, 945] (by decide +kernel) (by decide +kernel)
set_option maxRecDepth 20000 in
theorem gL_law_X8_act : GoodIn wsL_law (wsV RL 35 RX8 yX8_act wsX8_act) := goodIn_app (goodIn_of _ (by decide +kernel)) ggL_law_X8_act
set_option maxRecDepth 20000 in
theorem ggL_law_X7_input : GoodIn wsL_law wsX7_input := goodIn_r _ [464, 15, 220, 37, 22, 465, 466, 467, 14, 468, 45, 469, 265, 266, 267, 51, 470, 226, 227, 228, 875, 876, 877, 878, 879, 880, 881, 882, 883, 884, 885, 946, 947] (by decide +kernel) (by decide +kernel)
set_option maxRecDepth 20000 in
theorem gL_law_X7_input : GoodIn wsL_law (wsV RL 36 RX7 yX7_input wsX7_input) := goodIn_app (goodIn_of _ (by decide +kernel)) ggL_law_X7_input
set_option maxRecDepth 20000 in
theorem ggL_law_X8_input : GoodIn wsL_law wsX8_input := goodIn_r _ [474, 233, 475, 195, 183, 196, 886, 887, 888, 889, 890, 891, 892, 893, 894, 895, 896, 897, 898, 899, 900, 901, 902, 903, 904, 905, 906, 907, 908, 909, 910, 911, 912, 913, 914, 915, 916, 917, 918, 919, 920, 921, 922, 923, 924, 925, 926, 927, 928, 929, 930, 931, 932, 933, 934, 935, 936, 937, 938, 939, 940, 941, 942, 943, 944, 945] (by decide +kernel) (by decide +kernel)
set_option maxRecDepth 20000 in
theorem gL_law_X8_input : GoodIn wsL_law (wsV RL 40 RX8 yX8_input wsX8_input) := goodIn_app (goodIn_of _ (by decide +kernel)) ggL_law_X8_input
set_option maxRecDepth 20000 in
theorem ggL_law_X7_byteOf : GoodIn wsL_law wsX7_byteOf := goodIn_r _ [479, 22, 480, 481, 482, 2, 483, 37, 484, 265, 266, 14, 267, 45, 51, 875, 876, 877, 878, 879, 880, 881, 882, 883, 884, 885, 946, 947] (by decide +kernel) (by decide +kernel)
set_option maxRecDepth 20000 in
theorem gL_law_X7_byteOf : GoodIn wsL_law (wsV RL 41 RX7 yX7_byteOf wsX7_byteOf) := goodIn_app (goodIn_of _ (by decide +kernel)) ggL_law_X7_byteOf
set_option maxRecDepth 20000 in
theorem ggL_law_X8_byteOf : GoodIn wsL_law wsX8_byteOf := goodIn_r _ [488, 196, 195, 489, 490, 491, 5, 492, 475, 886, 887, 888, 889, 890, 891, 892, 893, 894, 895, 896, 897, 898, 899, 900, 901, 902, 903, 904, 905, 906, 907, 908, 909, 910, 911, 912, 913, 914, 915, 916, 917, 918, 919, 920, 921, 922, 923, 924, 925, 926, 927, 928, 929, 930, 931, 932, 933, 934, 935, 936, 937, 938, 939, 940, 941, 942, 943, 944, 945] (by decide +kernel) (by decide +kernel)
set_option maxRecDepth 20000 in
theorem gL_law_X8_byteOf : GoodIn wsL_law (wsV RL 45 RX8 yX8_byteOf wsX8_byteOf) := goodIn_app (goodIn_of _ (by decide +kernel)) ggL_law_X8_byteOf
set_option maxRecDepth 20000 in
theorem ggL_law_X7_drop : GoodIn wsL_law wsX7_drop := goodIn_r _ [496, 37, 875, 876, 877, 878, 879, 880, 881, 882, 883, 884, 885] (by decide +kernel) (by decide +kernel)
set_option maxRecDepth 20000 in
theorem gL_law_X7_drop : GoodIn wsL_law (wsV RL 46 RX7 yX7_drop wsX7_drop) := goodIn_app (goodIn_of _ (by decide +kernel)) ggL_law_X7_drop
set_option maxRecDepth 20000 in
theorem ggL_law_X8_drop : GoodIn wsL_law wsX8_drop := goodIn_r _ [500, 475, 886, 887, 888, 889, 890, 891, 892, 893, 894, 895, 896, 897, 898, 899, 900, 901, 902, 903, 904, 905, 906, 907, 908, 909, 910, 911, 912, 913, 914, 915, 916, 917, 918, 919, 920, 921, 922, 923, 924, 925, 926, 927, 928, 929, 930, 931, 932, 933, 934, 935, 936, 937, 938, 939, 940, 941, 942, 943, 944, 945] (by decide +kernel) (by decide +kernel)
set_option maxRecDepth 20000 in
theorem gL_law_X8_drop : GoodIn wsL_law (wsV RL 50 RX8 yX8_drop wsX8_drop) := goodIn_app (goodIn_of _ (by decide +kernel)) ggL_law_X8_drop
set_option maxRecDepth 20000 in
theorem ggL_law_X7_run : GoodIn wsL_law wsX7_run := goodIn_r _ [504, 26, 17, 22, 38, 505, 248, 249, 2, 250, 480, 481, 482, 483, 37, 506, 507, 508, 25, 509, 149, 154, 510, 148, 511, 512, 513, 514, 142, 143, 144, 146, 147, 150, 151, 152, 153, 515, 516, 517, 518, 519, 520, 521, 522, 523, 524, 525, 526, 527, 528, 529, 530, 531, 265, 266, 14, 267, 45, 51, 532, 533, 534, 535, 536, 537, 538, 539, 540, 541, 542, 543, 544, 545, 546, 547, 548, 549, 550, 551, 552, 553, 554, 555, 556, 557, 558, 559, 560, 561, 562, 563, 564, 565, 566, 145, 567, 568, 569, 570, 875, 876, 877, 878, 879, 880, 881, 882, 883, 884, 885, 959, 960, 961, 962, 963, 964, 965, 966, 967, 968, 969, 970, 971, 986, 987, 988, 989, 990, 946, 947] (by decide +kernel) (by decide +kernel)
set_option maxRecDepth 20000 in
theorem gL_law_X7_run : GoodIn wsL_law (wsV RL 51 RX7 yX7_run wsX7_run) := goodIn_app (goodIn_of _ (by decide +kernel)) ggL_law_X7_run
set_option maxRecDepth 20000 in
theorem ggL_law_X8_run : GoodIn wsL_law wsX8_run := goodIn_r _ [574, 575, 206, 576, 577, 578, 579, 580, 581, 582, 202, 198, 203, 199, 204, 200, 205, 201, 583, 360, 361, 5, 362, 489, 490, 491, 492, 475, 584, 585, 586, 587, 196, 588, 197, 195, 589, 590, 591, 592, 593, 190, 594, 595, 596, 597, 186, 187, 188, 189, 598, 599, 600, 601, 602, 603, 604, 605, 606, 607, 608, 609, 610, 611, 612, 613, 614, 615, 616, 886, 887, 888, 889, 890, 891, 892, 893, 894, 895, 896, 897, 898, 899, 900, 901, 902, 903, 904, 905, 906, 907, 908, 909, 910, 911, 912, 913, 914, 915, 916, 917, 918, 919, 920, 921, 922, 923, 924, 925, 926, 927, 928, 929, 930, 931, 932, 933, 934, 935, 936, 937, 938, 939, 940, 941, 942, 943, 944, 945] (by decide +kernel) (by decide +kernel)
set_option maxRecDepth 20000 in
theorem gL_law_X8_run : GoodIn wsL_law (wsV RL 54 RX8 yX8_run wsX8_run) := goodIn_app (goodIn_of _ (by decide +kernel)) ggL_law_X8_run
set_option maxRecDepth 20000 in
theorem ggL_law_X7_ran : GoodIn wsL_law wsX7_ran := goodIn_r _ [620, 38, 26, 621, 622, 623, 624, 625, 626, 627, 875, 876, 877, 878, 879, 880, 881, 882, 883, 884, 885, 959, 960, 961, 962, 963, 964, 965, 966, 967, 968, 969, 970, 971] (by decide +kernel) (by decide +kernel)
set_option maxRecDepth 20000 in
theorem gL_law_X7_ran : GoodIn wsL_law (wsV RL 55 RX7 yX7_ran wsX7_ran) := goodIn_app (goodIn_of _ (by decide +kernel)) ggL_law_X7_ran
set_option maxRecDepth 20000 in
theorem ggL_law_X8_ran : GoodIn wsL_law wsX8_ran := goodIn_r _ [631, 575, 206, 886, 887, 888, 889, 890, 891, 892, 893, 894, 895, 896, 897, 898, 899, 900, 901, 902, 903, 904, 905, 906, 907, 908, 909, 910, 911, 912, 913, 914, 915, 916, 917, 918, 919, 920, 921, 922, 923, 924, 925, 926, 927, 928, 929, 930, 931, 932, 933, 934, 935, 936, 937, 938, 939, 940, 941, 942, 943, 944, 945] (by decide +kernel) (by decide +kernel)
set_option maxRecDepth 20000 in
theorem gL_law_X8_ran : GoodIn wsL_law (wsV RL 58 RX8 yX8_ran wsX8_ran) := goodIn_app (goodIn_of _ (by decide +kernel)) ggL_law_X8_ran
set_option maxRecDepth 20000 in
theorem ggL_law_X7_told : GoodIn wsL_law wsX7_told := goodIn_r _ [635, 38, 26, 626, 636, 637, 48, 638, 639, 875, 876, 877, 878, 879, 880, 881, 882, 883, 884, 885, 959, 960, 961, 962, 963, 964, 965, 966, 967, 968, 969, 970, 971] (by decide +kernel) (by decide +kernel)
set_option maxRecDepth 20000 in
theorem gL_law_X7_told : GoodIn wsL_law (wsV RL 59 RX7 yX7_told wsX7_told) := goodIn_app (goodIn_of _ (by decide +kernel)) ggL_law_X7_told
set_option maxRecDepth 20000 in
theorem ggL_law_X8_told : GoodIn wsL_law wsX8_told := goodIn_r _ [643, 575, 206, 205, 886, 887, 888, 889, 890, 891, 892, 893, 894, 895, 896, 897, 898, 899, 900, 901, 902, 903, 904, 905, 906, 907, 908, 909, 910, 911, 912, 913, 914, 915, 916, 917, 918, 919, 920, 921, 922, 923, 924, 925, 926, 927, 928, 929, 930, 931, 932, 933, 934, 935, 936, 937, 938, 939, 940, 941, 942, 943, 944, 945] (by decide +kernel) (by decide +kernel)
set_option maxRecDepth 20000 in
theorem gL_law_X8_told : GoodIn wsL_law (wsV RL 62 RX8 yX8_told wsX8_told) := goodIn_app (goodIn_of _ (by decide +kernel)) ggL_law_X8_told
set_option maxRecDepth 20000 in
theorem ggL_law_X7_left : GoodIn wsL_law wsX7_left := goodIn_r _ [647, 38, 26, 648, 649, 650, 2, 651, 875, 876, 877, 878, 879, 880, 881, 882, 883, 884, 885, 959, 960, 961, 962, 963, 964, 965, 966, 967, 968, 969, 970, 971] (by decide +kernel) (by decide +kernel)
set_option maxRecDepth 20000 in
theorem gL_law_X7_left : GoodIn wsL_law (wsV RL 63 RX7 yX7_left wsX7_left) := goodIn_app (goodIn_of _ (by decide +kernel)) ggL_law_X7_left
set_option maxRecDepth 20000 in
theorem ggL_law_X8_left : GoodIn wsL_law wsX8_left := goodIn_r _ [655, 575, 202, 886, 887, 888, 889, 890, 891, 892, 893, 894, 895, 896, 897, 898, 899, 900, 901, 902, 903, 904, 905, 906, 907, 908, 909, 910, 911, 912, 913, 914, 915, 916, 917, 918, 919, 920, 921, 922, 923, 924, 925, 926, 927, 928, 929, 930, 931, 932, 933, 934, 935, 936, 937, 938, 939, 940, 941, 942, 943, 944, 945] (by decide +kernel) (by decide +kernel)
set_option maxRecDepth 20000 in
theorem gL_law_X8_left : GoodIn wsL_law (wsV RL 66 RX8 yX8_left wsX8_left) := goodIn_app (goodIn_of _ (by decide +kernel)) ggL_law_X8_left
set_option maxRecDepth 20000 in
theorem ggL_law_X7_leftOf : GoodIn wsL_law wsX7_leftOf := goodIn_r _ [659, 38, 26, 660, 661, 649, 650, 2, 651, 875, 876, 877, 878, 879, 880, 881, 882, 883, 884, 885, 959, 960, 961, 962, 963, 964, 965, 966, 967, 968, 969, 970, 971] (by decide +kernel) (by decide +kernel)
set_option maxRecDepth 20000 in
theorem gL_law_X7_leftOf : GoodIn wsL_law (wsV RL 67 RX7 yX7_leftOf wsX7_leftOf) := goodIn_app (goodIn_of _ (by decide +kernel)) ggL_law_X7_leftOf
set_option maxRecDepth 20000 in
theorem ggL_law_X8_leftOf : GoodIn wsL_law wsX8_leftOf := goodIn_r _ [665, 575, 203, 204, 886, 887, 888, 889, 890, 891, 892, 893, 894, 895, 896, 897, 898, 899, 900, 901, 902, 903, 904, 905, 906, 907, 908, 909, 910, 911, 912, 913, 914, 915, 916, 917, 918, 919, 920, 921, 922, 923, 924, 925, 926, 927, 928, 929, 930, 931, 932, 933, 934, 935, 936, 937, 938, 939, 940, 941, 942, 943, 944, 945] (by decide +kernel) (by decide +kernel)
set_option maxRecDepth 20000 in
theorem gL_law_X8_leftOf : GoodIn wsL_law (wsV RL 70 RX8 yX8_leftOf wsX8_leftOf) := goodIn_app (goodIn_of _ (by decide +kernel)) ggL_law_X8_leftOf
set_option maxRecDepth 20000 in
theorem ggL_law_X7_heaps : GoodIn wsL_law wsX7_heaps := goodIn_r _ [669, 32, 670, 248, 249, 2, 250, 671, 672, 673, 674, 37, 27, 17, 22, 506, 507, 508, 25, 509, 149, 154, 510, 148, 511, 512, 513, 514, 142, 143, 144, 146, 147, 150, 151, 152, 153, 515, 516, 517, 518, 519, 520, 521, 522, 523, 524, 525, 526, 527, 528, 529, 530, 531, 265, 266, 14, 267, 45, 51, 532, 533, 534, 535, 536, 537, 538, 539, 540, 541, 542, 543, 544, 545, 546, 547, 548, 549, 550, 551, 552, 553, 554, 555, 556, 557, 558, 559, 560, 561, 562, 563, 564, 565, 566, 145, 567, 568, 569, 570, 675, 676, 677, 31, 678, 163, 679, 159, 680, 681, 682, 683, 164, 160, 161, 684, 162, 685, 686, 687, 688, 689, 158, 875, 876, 877, 878, 879, 880, 881, 882, 883, 884, 885, 972, 973, 974, 975, 976, 977, 978, 959, 960, 961, 962, 963, 964, 965, 966, 967, 968, 969, 970, 971, 986, 987, 988, 989, 990, 946, 947] (by decide +kernel) (by decide +kernel)
set_option maxRecDepth 20000 in
theorem gL_law_X7_heaps : GoodIn wsL_law (wsV RL 71 RX7 yX7_heaps wsX7_heaps) := goodIn_app (goodIn_of _ (by decide +kernel)) ggL_law_X7_heaps
set_option maxRecDepth 20000 in
theorem ggL_law_X8_heaps : GoodIn wsL_law wsX8_heaps := goodIn_r _ [693, 694, 360, 361, 5, 362, 695, 696, 697, 698, 475, 207, 583, 208, 577, 209, 579, 210, 211, 584, 585, 586, 587, 196, 588, 197, 195, 589, 590, 591, 592, 198, 199, 200, 578, 580, 576, 581, 582, 593, 190, 594, 595, 596, 597, 186, 187, 188, 189, 598, 599, 600, 601, 602, 603, 604, 605, 606, 607, 608, 609, 610, 611, 612, 613, 614, 615, 616, 201, 886, 887, 888, 889, 890, 891, 892, 893, 894, 895, 896, 897, 898, 899, 900, 901, 902, 903, 904, 905, 906, 907, 908, 909, 910, 911, 912, 913, 914, 915, 916, 917, 918, 919, 920, 921, 922, 923, 924, 925, 926, 927, 928, 929, 930, 931, 932, 933, 934, 935, 936, 937, 938, 939, 940, 941, 942, 943, 944, 945] (by decide +kernel) (by decide +kernel)
set_option maxRecDepth 20000 in
theorem gL_law_X8_heaps : GoodIn wsL_law (wsV RL 74 RX8 yX8_heaps wsX8_heaps) := goodIn_app (goodIn_of _ (by decide +kernel)) ggL_law_X8_heaps
set_option maxRecDepth 20000 in
theorem ggL_law_X7_heap : GoodIn wsL_law wsX7_heap := goodIn_r _ [702, 32, 670, 703, 704, 705, 706, 707, 248, 249, 2, 250, 671, 672, 673, 674, 37, 27, 17, 22, 506, 507, 508, 25, 509, 149, 154, 510, 148, 511, 512, 513, 514, 142, 143, 144, 146, 147, 150, 151, 152, 153, 515, 516, 517, 518, 519, 520, 521, 522, 523, 524, 525, 526, 527, 528, 529, 530, 531, 265, 266, 14, 267, 45, 51, 532, 533, 534, 535, 536, 537, 538, 539, 540, 541, 542, 543, 544, 545, 546, 547, 548, 549, 550, 551, 552, 553, 554, 555, 556, 557, 558, 559, 560, 561, 562, 563, 564, 565, 566, 145, 567, 568, 569, 570, 675, 676, 677, 31, 678, 163, 679, 159, 680, 681, 682, 683, 164, 160, 161, 684, 162, 685, 686, 687, 688, 689, 158, 875, 876, 877, 878, 879, 880, 881, 882, 883, 884, 885, 972, 973, 974, 975, 976, 977, 978, 959, 960, 961, 962, 963, 964, 965, 966, 967, 968, 969, 970, 971, 986, 987, 988, 989, 990, 946, 947] (by decide +kernel) (by decide +kernel)
set_option maxRecDepth 20000 in
theorem gL_law_X7_heap : GoodIn wsL_law (wsV RL 75 RX7 yX7_heap wsX7_heap) := goodIn_app (goodIn_of _ (by decide +kernel)) ggL_law_X7_heap
set_option maxRecDepth 20000 in
theorem ggL_law_X8_heap : GoodIn wsL_law wsX8_heap := goodIn_r _ [711, 694, 475, 210, 211, 207, 208, 209, 360, 361, 5, 362, 695, 696, 697, 698, 583, 577, 579, 584, 585, 586, 587, 196, 588, 197, 195, 589, 590, 591, 592, 198, 199, 200, 578, 580, 576, 581, 582, 593, 190, 594, 595, 596, 597, 186, 187, 188, 189, 598, 599, 600, 601, 602, 603, 604, 605, 606, 607, 608, 609, 610, 611, 612, 613, 614, 615, 616, 201, 886, 887, 888, 889, 890, 891, 892, 893, 894, 895, 896, 897, 898, 899, 900, 901, 902, 903, 904, 905, 906, 907, 908, 909, 910, 911, 912, 913, 914, 915, 916, 917, 918, 919, 920, 921, 922, 923, 924, 925, 926, 927, 928, 929, 930, 931, 932, 933, 934, 935, 936, 937, 938, 939, 940, 941, 942, 943, 944, 945] (by decide +kernel) (by decide +kernel)
set_option maxRecDepth 20000 in
theorem gL_law_X8_heap : GoodIn wsL_law (wsV RL 78 RX8 yX8_heap wsX8_heap) := goodIn_app (goodIn_of _ (by decide +kernel)) ggL_law_X8_heap
set_option maxRecDepth 20000 in
theorem ggL_law_X7_heapOf : GoodIn wsL_law wsX7_heapOf := goodIn_r _ [715, 32, 716, 248, 249, 2, 250, 480, 481, 482, 483, 37, 671, 672, 673, 674, 670, 27, 17, 22, 506, 507, 508, 25, 509, 149, 154, 510, 148, 511, 512, 513, 514, 142, 143, 144, 146, 147, 150, 151, 152, 153, 515, 516, 517, 518, 519, 520, 521, 522, 523, 524, 525, 526, 527, 528, 529, 530, 531, 265, 266, 14, 267, 45, 51, 532, 533, 534, 535, 536, 537, 538, 539, 540, 541, 542, 543, 544, 545, 546, 547, 548, 549, 550, 551, 552, 553, 554, 555, 556, 557, 558, 559, 560, 561, 562, 563, 564, 565, 566, 145, 567, 568, 569, 570, 675, 676, 677, 31, 678, 163, 679, 159, 680, 681, 682, 683, 164, 160, 161, 684, 162, 685, 686, 687, 688, 689, 158, 875, 876, 877, 878, 879, 880, 881, 882, 883, 884, 885, 972, 973, 974, 975, 976, 977, 978, 959, 960, 961, 962, 963, 964, 965, 966, 967, 968, 969, 970, 971, 986, 987, 988, 989, 990, 946, 947] (by decide +kernel) (by decide +kernel)
set_option maxRecDepth 20000 in
theorem gL_law_X7_heapOf : GoodIn wsL_law (wsV RL 79 RX7 yX7_heapOf wsX7_heapOf) := goodIn_app (goodIn_of _ (by decide +kernel)) ggL_law_X7_heapOf
set_option maxRecDepth 20000 in
theorem ggL_law_X8_heapOf : GoodIn wsL_law wsX8_heapOf := goodIn_r _ [720, 210, 360, 361, 5, 362, 489, 490, 491, 492, 475, 695, 696, 697, 698, 694, 207, 583, 208, 577, 209, 579, 211, 584, 585, 586, 587, 196, 588, 197, 195, 589, 590, 591, 592, 198, 199, 200, 578, 580, 576, 581, 582, 593, 190, 594, 595, 596, 597, 186, 187, 188, 189, 598, 599, 600, 601, 602, 603, 604, 605, 606, 607, 608, 609, 610, 611, 612, 613, 614, 615, 616, 201, 886, 887, 888, 889, 890, 891, 892, 893, 894, 895, 896, 897, 898, 899, 900, 901, 902, 903, 904, 905, 906, 907, 908, 909, 910, 911, 912, 913, 914, 915, 916, 917, 918, 919, 920, 921, 922, 923, 924, 925, 926, 927, 928, 929, 930, 931, 932, 933, 934, 935, 936, 937, 938, 939, 940, 941, 942, 943, 944, 945] (by decide +kernel) (by decide +kernel)
set_option maxRecDepth 20000 in
theorem gL_law_X8_heapOf : GoodIn wsL_law (wsV RL 82 RX8 yX8_heapOf wsX8_heapOf) := goodIn_app (goodIn_of _ (by decide +kernel)) ggL_law_X8_heapOf
set_option maxRecDepth 20000 in
theorem ggL_law_X7_small : GoodIn wsL_law wsX7_small := goodIn_r _ [724, 36, 17, 22, 725, 220, 248, 249, 2, 250, 480, 481, 482, 483, 37, 726, 727, 728, 35, 729, 175, 169, 170, 730, 731, 507, 508, 25, 509, 149, 154, 510, 148, 511, 512, 513, 514, 142, 143, 144, 146, 147, 150, 151, 152, 153, 515, 516, 517, 518, 519, 520, 521, 522, 523, 524, 525, 526, 527, 528, 529, 530, 531, 265, 266, 14, 267, 45, 51, 532, 533, 534, 535, 536, 537, 538, 539, 540, 541, 542, 543, 544, 545, 546, 547, 548, 549, 550, 551, 552, 553, 554, 555, 556, 557, 558, 559, 560, 561, 562, 563, 564, 565, 566, 145, 567, 568, 569, 570, 732, 733, 466, 467, 468, 469, 470, 226, 227, 228, 734, 735, 736, 737, 173, 176, 738, 739, 740, 741, 742, 743, 744, 745, 746, 747, 748, 749, 750, 751, 752, 753, 754, 875, 876, 877, 878, 879, 880, 881, 882, 883, 884, 885, 979, 980, 981, 982, 983, 984, 985, 946, 947, 959, 960, 961, 962, 963, 964, 965, 966, 967, 968, 969, 970, 971, 986, 987, 988, 989, 990] (by decide +kernel) (by decide +kernel)
set_option maxRecDepth 20000 in
theorem gL_law_X7_small : GoodIn wsL_law (wsV RL 83 RX7 yX7_small wsX7_small) := goodIn_app (goodIn_of _ (by decide +kernel)) ggL_law_X7_small
set_option maxRecDepth 20000 in
theorem ggL_law_X8_small : GoodIn wsL_law wsX8_small := goodIn_r _ [758, 583, 588, 214, 212, 197, 213, 360, 361, 5, 362, 489, 490, 491, 492, 475, 584, 585, 586, 587, 196, 195, 589, 590, 591, 592, 198, 199, 200, 577, 578, 579, 580, 576, 581, 582, 593, 190, 594, 595, 596, 597, 186, 187, 188, 189, 598, 599, 600, 601, 602, 603, 604, 605, 606, 607, 608, 609, 610, 611, 612, 613, 614, 615, 616, 201, 759, 760, 761, 762, 763, 764, 765, 766, 767, 768, 769, 770, 771, 772, 773, 774, 775, 776, 886, 887, 888, 889, 890, 891, 892, 893, 894, 895, 896, 897, 898, 899, 900, 901, 902, 903, 904, 905, 906, 907, 908, 909, 910, 911, 912, 913, 914, 915, 916, 917, 918, 919, 920, 921, 922, 923, 924, 925, 926, 927, 928, 929, 930, 931, 932, 933, 934, 935, 936, 937, 938, 939, 940, 941, 942, 943, 944, 945] (by decide +kernel) (by decide +kernel)
set_option maxRecDepth 20000 in
theorem gL_law_X8_small : GoodIn wsL_law (wsV RL 86 RX8 yX8_small wsX8_small) := goodIn_app (goodIn_of _ (by decide +kernel)) ggL_law_X8_small
set_option maxRecDepth 20000 in
theorem ggL_law_X7_smallByte : GoodIn wsL_law wsX7_smallByte := goodIn_r _ [780, 36, 781, 725, 484, 265, 266, 14, 267, 45, 51, 875, 876, 877, 878, 879, 880, 881, 882, 883, 884, 885, 979, 980, 981, 982, 983, 984, 985, 946, 947] (by decide +kernel) (by decide +kernel)
set_option maxRecDepth 20000 in
theorem gL_law_X7_smallByte : GoodIn wsL_law (wsV RL 87 RX7 yX7_smallByte wsX7_smallByte) := goodIn_app (goodIn_of _ (by decide +kernel)) ggL_law_X7_smallByte
set_option maxRecDepth 20000 in
theorem ggL_law_X8_smallByte : GoodIn wsL_law wsX8_smallByte := goodIn_r _ [785, 214, 213, 212, 886, 887, 888, 889, 890, 891, 892, 893, 894, 895, 896, 897, 898, 899, 900, 901, 902, 903, 904, 905, 906, 907, 908, 909, 910, 911, 912, 913, 914, 915, 916, 917, 918, 919, 920, 921, 922, 923, 924, 925, 926, 927, 928, 929, 930, 931, 932, 933, 934, 935, 936, 937, 938, 939, 940, 941, 942, 943, 944, 945] (by decide +kernel) (by decide +kernel)
set_option maxRecDepth 20000 in
theorem gL_law_X8_smallByte : GoodIn wsL_law (wsV RL 91 RX8 yX8_smallByte wsX8_smallByte) := goodIn_app (goodIn_of _ (by decide +kernel)) ggL_law_X8_smallByte
