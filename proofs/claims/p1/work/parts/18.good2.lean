set_option maxRecDepth 100000 in
theorem gg_L_law_X11_code_74 : GoodIn v_L_law v_X11_code := goodIn_r _ [589, 26, 244, 245, 246, 23, 247, 100, 248, 249, 250, 251, 252, 101, 253, 911, 912, 913, 914, 915, 916, 917, 918, 919, 920, 921, 909, 910, 850, 851, 852, 853, 854, 855, 856, 857, 858, 859, 860, 861, 862, 863, 877, 878, 879, 880, 881, 882, 883, 884, 885, 886, 887, 888, 889, 890, 891, 892, 893] (by decide +kernel) (by decide +kernel)
set_option maxRecDepth 100000 in
theorem g_L_law_X11_code_74 : GoodIn v_L_law (wsV RL 74 RX11 yX11_code v_X11_code) := goodIn_app (goodIn_r _ [586, 587, 588, 2] (by decide +kernel) (by decide +kernel)) gg_L_law_X11_code_74
set_option maxRecDepth 100000 in
theorem gg_L_law_X12_code_77 : GoodIn v_L_law v_X12_code := goodIn_r _ [593, 220, 276, 277, 278, 7, 279, 280, 281, 282, 283, 172, 284, 285, 286, 287, 288, 289, 290, 291, 292, 293, 922, 923, 924, 925, 926, 927, 928, 929, 930, 931, 932, 933, 934, 935, 936, 937, 938, 939, 940, 941, 942, 943, 944, 945, 946, 947, 948, 949, 950, 951, 952, 953, 954, 955, 956, 957, 958, 959, 960, 961, 962, 963, 964, 965, 966, 967, 968, 969, 970, 971, 972, 973, 974, 975, 976, 977, 978, 979, 980] (by decide +kernel) (by decide +kernel)
set_option maxRecDepth 100000 in
theorem g_L_law_X12_code_77 : GoodIn v_L_law (wsV RL 77 RX12 yX12_code v_X12_code) := goodIn_app (goodIn_r _ [590, 591, 592, 7] (by decide +kernel) (by decide +kernel)) gg_L_law_X12_code_77
set_option maxRecDepth 100000 in
theorem gg_L_law_X11_lookUp_78 : GoodIn v_L_law v_X11_lookUp := goodIn_r _ [597, 26, 244, 245, 246, 23, 247, 100, 248, 249, 250, 251, 252, 101, 253, 598, 599, 600, 601, 602, 427, 428, 429, 430, 911, 912, 913, 914, 915, 916, 917, 918, 919, 920, 921, 909, 910, 850, 851, 852, 853, 854, 855, 856, 857, 858, 859, 860, 861, 862, 863, 877, 878, 879, 880, 881, 882, 883, 884, 885, 886, 887, 888, 889, 890, 891, 892, 893] (by decide +kernel) (by decide +kernel)
set_option maxRecDepth 100000 in
theorem g_L_law_X11_lookUp_78 : GoodIn v_L_law (wsV RL 78 RX11 yX11_lookUp v_X11_lookUp) := goodIn_app (goodIn_r _ [594, 595, 596, 2] (by decide +kernel) (by decide +kernel)) gg_L_law_X11_lookUp_78
set_option maxRecDepth 100000 in
theorem gg_L_law_X12_lookUp_81 : GoodIn v_L_law v_X12_lookUp := goodIn_r _ [606, 220, 276, 277, 278, 7, 279, 280, 281, 282, 283, 172, 284, 285, 286, 287, 288, 289, 290, 291, 292, 293, 607, 608, 609, 610, 611, 612, 613, 452, 453, 454, 455, 922, 923, 924, 925, 926, 927, 928, 929, 930, 931, 932, 933, 934, 935, 936, 937, 938, 939, 940, 941, 942, 943, 944, 945, 946, 947, 948, 949, 950, 951, 952, 953, 954, 955, 956, 957, 958, 959, 960, 961, 962, 963, 964, 965, 966, 967, 968, 969, 970, 971, 972, 973, 974, 975, 976, 977, 978, 979, 980] (by decide +kernel) (by decide +kernel)
set_option maxRecDepth 100000 in
theorem g_L_law_X12_lookUp_81 : GoodIn v_L_law (wsV RL 81 RX12 yX12_lookUp v_X12_lookUp) := goodIn_app (goodIn_r _ [603, 604, 605, 7] (by decide +kernel) (by decide +kernel)) gg_L_law_X12_lookUp_81
set_option maxRecDepth 100000 in
theorem gg_L_law_X11_register_82 : GoodIn v_L_law v_X11_register := goodIn_r _ [617, 19, 618, 619, 911, 912, 913, 914, 915, 916, 917, 918, 919, 920, 921, 877, 878, 879, 880, 881, 882, 883, 884, 885, 886, 887, 888, 889, 890, 891, 892, 893, 868, 869, 870, 871] (by decide +kernel) (by decide +kernel)
set_option maxRecDepth 100000 in
theorem g_L_law_X11_register_82 : GoodIn v_L_law (wsV RL 82 RX11 yX11_register v_X11_register) := goodIn_app (goodIn_r _ [614, 615, 616, 2] (by decide +kernel) (by decide +kernel)) gg_L_law_X11_register_82
set_option maxRecDepth 100000 in
theorem gg_L_law_X12_register_85 : GoodIn v_L_law v_X12_register := goodIn_r _ [623, 220, 439, 527, 172, 284, 285, 7, 286, 922, 923, 924, 925, 926, 927, 928, 929, 930, 931, 932, 933, 934, 935, 936, 937, 938, 939, 940, 941, 942, 943, 944, 945, 946, 947, 948, 949, 950, 951, 952, 953, 954, 955, 956, 957, 958, 959, 960, 961, 962, 963, 964, 965, 966, 967, 968, 969, 970, 971, 972, 973, 974, 975, 976, 977, 978, 979, 980] (by decide +kernel) (by decide +kernel)
set_option maxRecDepth 100000 in
theorem g_L_law_X12_register_85 : GoodIn v_L_law (wsV RL 85 RX12 yX12_register v_X12_register) := goodIn_app (goodIn_r _ [620, 621, 622, 7] (by decide +kernel) (by decide +kernel)) gg_L_law_X12_register_85
set_option maxRecDepth 100000 in
theorem gg_L_law_X11_wants_86 : GoodIn v_L_law v_X11_wants := goodIn_r _ [627, 26, 628, 44, 244, 245, 246, 23, 247, 100, 248, 249, 250, 251, 252, 101, 253, 629, 630, 631, 41, 632, 154, 633, 634, 635, 636, 637, 911, 912, 913, 914, 915, 916, 917, 918, 919, 920, 921, 909, 910, 850, 851, 852, 853, 854, 855, 856, 857, 858, 859, 860, 861, 862, 863, 877, 878, 879, 880, 881, 882, 883, 884, 885, 886, 887, 888, 889, 890, 891, 892, 893, 864, 865, 866, 867] (by decide +kernel) (by decide +kernel)
set_option maxRecDepth 100000 in
theorem g_L_law_X11_wants_86 : GoodIn v_L_law (wsV RL 86 RX11 yX11_wants v_X11_wants) := goodIn_app (goodIn_r _ [624, 625, 626, 2] (by decide +kernel) (by decide +kernel)) gg_L_law_X11_wants_86
set_option maxRecDepth 100000 in
theorem gg_L_law_X12_wants_90 : GoodIn v_L_law v_X12_wants := goodIn_r _ [641, 220, 642, 276, 277, 278, 7, 279, 280, 281, 282, 283, 172, 284, 285, 286, 287, 288, 289, 290, 291, 292, 293, 643, 644, 645, 646, 647, 648, 649, 650, 922, 923, 924, 925, 926, 927, 928, 929, 930, 931, 932, 933, 934, 935, 936, 937, 938, 939, 940, 941, 942, 943, 944, 945, 946, 947, 948, 949, 950, 951, 952, 953, 954, 955, 956, 957, 958, 959, 960, 961, 962, 963, 964, 965, 966, 967, 968, 969, 970, 971, 972, 973, 974, 975, 976, 977, 978, 979, 980] (by decide +kernel) (by decide +kernel)
set_option maxRecDepth 100000 in
theorem g_L_law_X12_wants_90 : GoodIn v_L_law (wsV RL 90 RX12 yX12_wants v_X12_wants) := goodIn_app (goodIn_r _ [638, 639, 640, 7] (by decide +kernel) (by decide +kernel)) gg_L_law_X12_wants_90
set_option maxRecDepth 100000 in
theorem gg_L_law_X11_wanted_91 : GoodIn v_L_law v_X11_wanted := goodIn_r _ [654, 26, 628, 244, 245, 246, 23, 247, 100, 248, 249, 250, 251, 252, 101, 253, 911, 912, 913, 914, 915, 916, 917, 918, 919, 920, 921, 909, 910, 850, 851, 852, 853, 854, 855, 856, 857, 858, 859, 860, 861, 862, 863, 877, 878, 879, 880, 881, 882, 883, 884, 885, 886, 887, 888, 889, 890, 891, 892, 893] (by decide +kernel) (by decide +kernel)
set_option maxRecDepth 100000 in
theorem g_L_law_X11_wanted_91 : GoodIn v_L_law (wsV RL 91 RX11 yX11_wanted v_X11_wanted) := goodIn_app (goodIn_r _ [651, 652, 653, 2] (by decide +kernel) (by decide +kernel)) gg_L_law_X11_wanted_91
set_option maxRecDepth 100000 in
theorem gg_L_law_X12_wanted_94 : GoodIn v_L_law v_X12_wanted := goodIn_r _ [658, 220, 642, 276, 277, 278, 7, 279, 280, 281, 282, 283, 172, 284, 285, 286, 287, 288, 289, 290, 291, 292, 293, 922, 923, 924, 925, 926, 927, 928, 929, 930, 931, 932, 933, 934, 935, 936, 937, 938, 939, 940, 941, 942, 943, 944, 945, 946, 947, 948, 949, 950, 951, 952, 953, 954, 955, 956, 957, 958, 959, 960, 961, 962, 963, 964, 965, 966, 967, 968, 969, 970, 971, 972, 973, 974, 975, 976, 977, 978, 979, 980] (by decide +kernel) (by decide +kernel)
set_option maxRecDepth 100000 in
theorem g_L_law_X12_wanted_94 : GoodIn v_L_law (wsV RL 94 RX12 yX12_wanted v_X12_wanted) := goodIn_app (goodIn_r _ [655, 656, 657, 7] (by decide +kernel) (by decide +kernel)) gg_L_law_X12_wanted_94
set_option maxRecDepth 100000 in
theorem gg_L_law_X11_deepest_95 : GoodIn v_L_law v_X11_deepest := goodIn_r _ [662, 50, 415, 416, 417, 47, 418, 419, 420, 421, 422, 158, 423, 424, 425, 23, 426, 101, 253, 427, 428, 429, 430, 911, 912, 913, 914, 915, 916, 917, 918, 919, 920, 921, 872, 873, 874, 875, 876, 909, 910, 877, 878, 879, 880, 881, 882, 883, 884, 885, 886, 887, 888, 889, 890, 891, 892, 893] (by decide +kernel) (by decide +kernel)
set_option maxRecDepth 100000 in
theorem g_L_law_X11_deepest_95 : GoodIn v_L_law (wsV RL 95 RX11 yX11_deepest v_X11_deepest) := goodIn_app (goodIn_r _ [659, 660, 661, 2] (by decide +kernel) (by decide +kernel)) gg_L_law_X11_deepest_95
set_option maxRecDepth 100000 in
theorem gg_L_law_X12_deepest_98 : GoodIn v_L_law v_X12_deepest := goodIn_r _ [666, 220, 440, 441, 442, 7, 443, 444, 445, 446, 447, 448, 449, 450, 451, 452, 453, 454, 455, 172, 922, 923, 924, 925, 926, 927, 928, 929, 930, 931, 932, 933, 934, 935, 936, 937, 938, 939, 940, 941, 942, 943, 944, 945, 946, 947, 948, 949, 950, 951, 952, 953, 954, 955, 956, 957, 958, 959, 960, 961, 962, 963, 964, 965, 966, 967, 968, 969, 970, 971, 972, 973, 974, 975, 976, 977, 978, 979, 980] (by decide +kernel) (by decide +kernel)
set_option maxRecDepth 100000 in
theorem g_L_law_X12_deepest_98 : GoodIn v_L_law (wsV RL 98 RX12 yX12_deepest v_X12_deepest) := goodIn_app (goodIn_r _ [663, 664, 665, 7] (by decide +kernel) (by decide +kernel)) gg_L_law_X12_deepest_98
set_option maxRecDepth 100000 in
theorem gg_L_law_X11_why_99 : GoodIn v_L_law v_X11_why := goodIn_r _ [670, 50, 415, 416, 417, 47, 418, 419, 420, 421, 422, 158, 423, 424, 425, 23, 426, 101, 253, 427, 428, 429, 430, 911, 912, 913, 914, 915, 916, 917, 918, 919, 920, 921, 872, 873, 874, 875, 876, 909, 910, 877, 878, 879, 880, 881, 882, 883, 884, 885, 886, 887, 888, 889, 890, 891, 892, 893] (by decide +kernel) (by decide +kernel)
set_option maxRecDepth 100000 in
theorem g_L_law_X11_why_99 : GoodIn v_L_law (wsV RL 99 RX11 yX11_why v_X11_why) := goodIn_app (goodIn_r _ [667, 668, 669, 2] (by decide +kernel) (by decide +kernel)) gg_L_law_X11_why_99
set_option maxRecDepth 100000 in
theorem gg_L_law_X12_why_102 : GoodIn v_L_law v_X12_why := goodIn_r _ [674, 220, 439, 284, 285, 7, 286, 440, 441, 442, 443, 444, 445, 446, 447, 448, 449, 450, 451, 452, 453, 454, 455, 172, 922, 923, 924, 925, 926, 927, 928, 929, 930, 931, 932, 933, 934, 935, 936, 937, 938, 939, 940, 941, 942, 943, 944, 945, 946, 947, 948, 949, 950, 951, 952, 953, 954, 955, 956, 957, 958, 959, 960, 961, 962, 963, 964, 965, 966, 967, 968, 969, 970, 971, 972, 973, 974, 975, 976, 977, 978, 979, 980] (by decide +kernel) (by decide +kernel)
set_option maxRecDepth 100000 in
theorem g_L_law_X12_why_102 : GoodIn v_L_law (wsV RL 102 RX12 yX12_why v_X12_why) := goodIn_app (goodIn_r _ [671, 672, 673, 7] (by decide +kernel) (by decide +kernel)) gg_L_law_X12_why_102
set_option maxRecDepth 100000 in
theorem gg_L_law_X11_order_103 : GoodIn v_L_law v_X11_order := goodIn_r _ [678, 50, 679, 680, 681, 47, 682, 683, 684, 685, 686, 687, 688, 689, 690, 159, 508, 158, 691, 692, 693, 694, 476, 695, 911, 912, 913, 914, 915, 916, 917, 918, 919, 920, 921, 872, 873, 874, 875, 876, 877, 878, 879, 880, 881, 882, 883, 884, 885, 886, 887, 888, 889, 890, 891, 892, 893, 909, 910, 850, 851, 852, 853, 854, 855, 856, 857, 858, 859, 860, 861, 862, 863] (by decide +kernel) (by decide +kernel)
set_option maxRecDepth 100000 in
theorem g_L_law_X11_order_103 : GoodIn v_L_law (wsV RL 103 RX11 yX11_order v_X11_order) := goodIn_app (goodIn_r _ [675, 676, 677, 2] (by decide +kernel) (by decide +kernel)) gg_L_law_X11_order_103
set_option maxRecDepth 100000 in
theorem gg_L_law_X12_order_106 : GoodIn v_L_law v_X12_order := goodIn_r _ [699, 220, 700, 701, 702, 703, 7, 704, 172, 284, 285, 286, 922, 923, 924, 925, 926, 927, 928, 929, 930, 931, 932, 933, 934, 935, 936, 937, 938, 939, 940, 941, 942, 943, 944, 945, 946, 947, 948, 949, 950, 951, 952, 953, 954, 955, 956, 957, 958, 959, 960, 961, 962, 963, 964, 965, 966, 967, 968, 969, 970, 971, 972, 973, 974, 975, 976, 977, 978, 979, 980] (by decide +kernel) (by decide +kernel)
set_option maxRecDepth 100000 in
theorem g_L_law_X12_order_106 : GoodIn v_L_law (wsV RL 106 RX12 yX12_order v_X12_order) := goodIn_app (goodIn_r _ [696, 697, 698, 7] (by decide +kernel) (by decide +kernel)) gg_L_law_X12_order_106
set_option maxRecDepth 100000 in
theorem gg_L_law_X11_would_107 : GoodIn v_L_law v_X11_would := goodIn_r _ [708, 411, 412, 413, 2, 414, 19, 242, 50, 415, 416, 417, 47, 418, 419, 420, 421, 422, 158, 423, 424, 425, 23, 426, 101, 253, 427, 428, 429, 430, 911, 912, 913, 914, 915, 916, 917, 918, 919, 920, 921, 877, 878, 879, 880, 881, 882, 883, 884, 885, 886, 887, 888, 889, 890, 891, 892, 893, 872, 873, 874, 875, 876, 909, 910] (by decide +kernel) (by decide +kernel)
set_option maxRecDepth 100000 in
theorem g_L_law_X11_would_107 : GoodIn v_L_law (wsV RL 107 RX11 yX11_would v_X11_would) := goodIn_app (goodIn_r _ [705, 706, 707, 2] (by decide +kernel) (by decide +kernel)) gg_L_law_X11_would_107
set_option maxRecDepth 100000 in
theorem gg_L_law_X12_would_110 : GoodIn v_L_law v_X12_would := goodIn_r _ [712, 220, 435, 436, 437, 7, 438, 439, 172, 284, 285, 286, 440, 441, 442, 443, 444, 445, 446, 447, 448, 449, 450, 451, 452, 453, 454, 455, 922, 923, 924, 925, 926, 927, 928, 929, 930, 931, 932, 933, 934, 935, 936, 937, 938, 939, 940, 941, 942, 943, 944, 945, 946, 947, 948, 949, 950, 951, 952, 953, 954, 955, 956, 957, 958, 959, 960, 961, 962, 963, 964, 965, 966, 967, 968, 969, 970, 971, 972, 973, 974, 975, 976, 977, 978, 979, 980] (by decide +kernel) (by decide +kernel)
set_option maxRecDepth 100000 in
theorem g_L_law_X12_would_110 : GoodIn v_L_law (wsV RL 110 RX12 yX12_would v_X12_would) := goodIn_app (goodIn_r _ [709, 710, 711, 7] (by decide +kernel) (by decide +kernel)) gg_L_law_X12_would_110
set_option maxRecDepth 100000 in
theorem gg_L_law_X11_tries_111 : GoodIn v_L_law v_X11_tries := goodIn_r _ [716, 341, 342, 343, 2, 344, 26, 345, 346, 347, 348, 244, 245, 246, 23, 247, 100, 248, 249, 250, 251, 252, 101, 253, 911, 912, 913, 914, 915, 916, 917, 918, 919, 920, 921, 909, 910, 850, 851, 852, 853, 854, 855, 856, 857, 858, 859, 860, 861, 862, 863, 877, 878, 879, 880, 881, 882, 883, 884, 885, 886, 887, 888, 889, 890, 891, 892, 893] (by decide +kernel) (by decide +kernel)
set_option maxRecDepth 100000 in
theorem g_L_law_X11_tries_111 : GoodIn v_L_law (wsV RL 111 RX11 yX11_tries v_X11_tries) := goodIn_app (goodIn_r _ [713, 714, 715, 2] (by decide +kernel) (by decide +kernel)) gg_L_law_X11_tries_111
set_option maxRecDepth 100000 in
theorem gg_L_law_X12_tries_114 : GoodIn v_L_law v_X12_tries := goodIn_r _ [720, 220, 439, 284, 285, 7, 286, 353, 354, 355, 356, 276, 277, 278, 279, 280, 281, 282, 283, 172, 287, 288, 289, 290, 291, 292, 293, 922, 923, 924, 925, 926, 927, 928, 929, 930, 931, 932, 933, 934, 935, 936, 937, 938, 939, 940, 941, 942, 943, 944, 945, 946, 947, 948, 949, 950, 951, 952, 953, 954, 955, 956, 957, 958, 959, 960, 961, 962, 963, 964, 965, 966, 967, 968, 969, 970, 971, 972, 973, 974, 975, 976, 977, 978, 979, 980] (by decide +kernel) (by decide +kernel)
set_option maxRecDepth 100000 in
theorem g_L_law_X12_tries_114 : GoodIn v_L_law (wsV RL 114 RX12 yX12_tries v_X12_tries) := goodIn_app (goodIn_r _ [717, 718, 719, 7] (by decide +kernel) (by decide +kernel)) gg_L_law_X12_tries_114
set_option maxRecDepth 100000 in
theorem gg_L_law_X11_error_115 : GoodIn v_L_law v_X11_error := goodIn_r _ [724, 38, 725, 726, 727, 35, 728, 132, 911, 912, 913, 914, 915, 916, 917, 918, 919, 920, 921, 840, 841, 842, 843, 844, 845, 846, 847, 848, 849] (by decide +kernel) (by decide +kernel)
set_option maxRecDepth 100000 in
theorem g_L_law_X11_error_115 : GoodIn v_L_law (wsV RL 115 RX11 yX11_error v_X11_error) := goodIn_app (goodIn_r _ [721, 722, 723, 2] (by decide +kernel) (by decide +kernel)) gg_L_law_X11_error_115
set_option maxRecDepth 100000 in
theorem gg_L_law_X12_error_118 : GoodIn v_L_law v_X12_error := goodIn_r _ [732, 220, 733, 734, 735, 736, 737, 284, 285, 7, 286, 922, 923, 924, 925, 926, 927, 928, 929, 930, 931, 932, 933, 934, 935, 936, 937, 938, 939, 940, 941, 942, 943, 944, 945, 946, 947, 948, 949, 950, 951, 952, 953, 954, 955, 956, 957, 958, 959, 960, 961, 962, 963, 964, 965, 966, 967, 968, 969, 970, 971, 972, 973, 974, 975, 976, 977, 978, 979, 980] (by decide +kernel) (by decide +kernel)
set_option maxRecDepth 100000 in
theorem g_L_law_X12_error_118 : GoodIn v_L_law (wsV RL 118 RX12 yX12_error v_X12_error) := goodIn_app (goodIn_r _ [729, 730, 731, 7] (by decide +kernel) (by decide +kernel)) gg_L_law_X12_error_118
set_option maxRecDepth 100000 in
theorem gg_L_law_X11_note_119 : GoodIn v_L_law v_X11_note := goodIn_r _ [741, 19, 742, 743, 744, 745, 81, 746, 501, 911, 912, 913, 914, 915, 916, 917, 918, 919, 920, 921, 877, 878, 879, 880, 881, 882, 883, 884, 885, 886, 887, 888, 889, 890, 891, 892, 893, 836, 837, 838, 839] (by decide +kernel) (by decide +kernel)
set_option maxRecDepth 100000 in
theorem g_L_law_X11_note_119 : GoodIn v_L_law (wsV RL 119 RX11 yX11_note v_X11_note) := goodIn_app (goodIn_r _ [738, 739, 740, 2] (by decide +kernel) (by decide +kernel)) gg_L_law_X11_note_119
set_option maxRecDepth 100000 in
theorem gg_L_law_X12_note_122 : GoodIn v_L_law v_X12_note := goodIn_r _ [750, 220, 172, 284, 285, 7, 286, 922, 923, 924, 925, 926, 927, 928, 929, 930, 931, 932, 933, 934, 935, 936, 937, 938, 939, 940, 941, 942, 943, 944, 945, 946, 947, 948, 949, 950, 951, 952, 953, 954, 955, 956, 957, 958, 959, 960, 961, 962, 963, 964, 965, 966, 967, 968, 969, 970, 971, 972, 973, 974, 975, 976, 977, 978, 979, 980] (by decide +kernel) (by decide +kernel)
set_option maxRecDepth 100000 in
theorem g_L_law_X12_note_122 : GoodIn v_L_law (wsV RL 122 RX12 yX12_note v_X12_note) := goodIn_app (goodIn_r _ [747, 748, 749, 7] (by decide +kernel) (by decide +kernel)) gg_L_law_X12_note_122
set_option maxRecDepth 100000 in
theorem gg_L_law_X11_switched_123 : GoodIn v_L_law v_X11_switched := goodIn_r _ [754, 19, 755, 743, 744, 745, 81, 746, 501, 911, 912, 913, 914, 915, 916, 917, 918, 919, 920, 921, 877, 878, 879, 880, 881, 882, 883, 884, 885, 886, 887, 888, 889, 890, 891, 892, 893, 836, 837, 838, 839] (by decide +kernel) (by decide +kernel)
set_option maxRecDepth 100000 in
theorem g_L_law_X11_switched_123 : GoodIn v_L_law (wsV RL 123 RX11 yX11_switched v_X11_switched) := goodIn_app (goodIn_r _ [751, 752, 753, 2] (by decide +kernel) (by decide +kernel)) gg_L_law_X11_switched_123
set_option maxRecDepth 100000 in
theorem gg_L_law_X12_switched_126 : GoodIn v_L_law v_X12_switched := goodIn_r _ [759, 220, 172, 284, 285, 7, 286, 922, 923, 924, 925, 926, 927, 928, 929, 930, 931, 932, 933, 934, 935, 936, 937, 938, 939, 940, 941, 942, 943, 944, 945, 946, 947, 948, 949, 950, 951, 952, 953, 954, 955, 956, 957, 958, 959, 960, 961, 962, 963, 964, 965, 966, 967, 968, 969, 970, 971, 972, 973, 974, 975, 976, 977, 978, 979, 980] (by decide +kernel) (by decide +kernel)
set_option maxRecDepth 100000 in
theorem g_L_law_X12_switched_126 : GoodIn v_L_law (wsV RL 126 RX12 yX12_switched v_X12_switched) := goodIn_app (goodIn_r _ [756, 757, 758, 7] (by decide +kernel) (by decide +kernel)) gg_L_law_X12_switched_126
set_option maxRecDepth 100000 in
theorem gg_L_law_X11_count_127 : GoodIn v_L_law v_X11_count := goodIn_r _ [763, 19, 243, 26, 242, 44, 467, 618, 764, 765, 766, 742, 767, 755, 38, 56, 32, 58, 768, 769, 770, 23, 771, 101, 253, 100, 248, 772, 773, 774, 41, 775, 154, 776, 153, 777, 778, 779, 780, 781, 782, 783, 784, 785, 786, 35, 787, 514, 550, 551, 552, 53, 553, 473, 788, 789, 790, 29, 791, 211, 911, 912, 913, 914, 915, 916, 917, 918, 919, 920, 921, 877, 878, 879, 880, 881, 882, 883, 884, 885, 886, 887, 888, 889, 890, 891, 892, 893, 868, 869, 870, 871, 836, 837, 838, 839, 909, 910, 850, 851, 852, 853, 854, 855, 856, 857, 858, 859, 860, 861, 862, 863, 864, 865, 866, 867, 840, 841, 842, 843, 844, 845, 846, 847, 848, 849, 831, 832, 833, 834, 835, 894, 895, 896, 897, 898, 899, 900, 901, 902, 903, 904, 905, 906, 907, 908] (by decide +kernel) (by decide +kernel)
set_option maxRecDepth 100000 in
theorem g_L_law_X11_count_127 : GoodIn v_L_law (wsV RL 127 RX11 yX11_count v_X11_count) := goodIn_app (goodIn_r _ [760, 761, 762, 2] (by decide +kernel) (by decide +kernel)) gg_L_law_X11_count_127
set_option maxRecDepth 100000 in
theorem gg_L_law_X12_count_130 : GoodIn v_L_law v_X12_count := goodIn_r _ [795, 220, 172, 528, 533, 221, 796, 797, 171, 798, 799, 800, 7, 801, 287, 288, 289, 290, 291, 292, 293, 802, 803, 804, 805, 806, 807, 808, 809, 284, 285, 286, 922, 923, 924, 925, 926, 927, 928, 929, 930, 931, 932, 933, 934, 935, 936, 937, 938, 939, 940, 941, 942, 943, 944, 945, 946, 947, 948, 949, 950, 951, 952, 953, 954, 955, 956, 957, 958, 959, 960, 961, 962, 963, 964, 965, 966, 967, 968, 969, 970, 971, 972, 973, 974, 975, 976, 977, 978, 979, 980] (by decide +kernel) (by decide +kernel)
set_option maxRecDepth 100000 in
theorem g_L_law_X12_count_130 : GoodIn v_L_law (wsV RL 130 RX12 yX12_count v_X12_count) := goodIn_app (goodIn_r _ [792, 793, 794, 7] (by decide +kernel) (by decide +kernel)) gg_L_law_X12_count_130
set_option maxRecDepth 100000 in
theorem gg_L_law_X11_status_131 : GoodIn v_L_law v_X11_status := goodIn_r _ [813, 258, 911, 912, 913, 914, 915, 916, 917, 918, 919, 920, 921] (by decide +kernel) (by decide +kernel)
set_option maxRecDepth 100000 in
theorem g_L_law_X11_status_131 : GoodIn v_L_law (wsV RL 131 RX11 yX11_status v_X11_status) := goodIn_app (goodIn_r _ [810, 811, 812, 2] (by decide +kernel) (by decide +kernel)) gg_L_law_X11_status_131
set_option maxRecDepth 100000 in
theorem gg_L_law_X12_status_134 : GoodIn v_L_law v_X12_status := goodIn_r _ [817, 220, 298, 922, 923, 924, 925, 926, 927, 928, 929, 930, 931, 932, 933, 934, 935, 936, 937, 938, 939, 940, 941, 942, 943, 944, 945, 946, 947, 948, 949, 950, 951, 952, 953, 954, 955, 956, 957, 958, 959, 960, 961, 962, 963, 964, 965, 966, 967, 968, 969, 970, 971, 972, 973, 974, 975, 976, 977, 978, 979, 980] (by decide +kernel) (by decide +kernel)
set_option maxRecDepth 100000 in
theorem g_L_law_X12_status_134 : GoodIn v_L_law (wsV RL 134 RX12 yX12_status v_X12_status) := goodIn_app (goodIn_r _ [814, 815, 816, 7] (by decide +kernel) (by decide +kernel)) gg_L_law_X12_status_134
