set_option maxRecDepth 100000 in
theorem gg_L_law_X11_init_9 : GoodIn v_L_law v_X11_init := goodIn_r _ [10, 11, 12, 13, 14, 15, 16, 17, 18, 19, 20, 21, 22, 23, 24, 25, 26, 27, 28, 29, 30, 31, 32, 33, 34, 35, 36, 37, 38, 39, 40, 41, 42, 43, 44, 45, 46, 47, 48, 49, 50, 51, 52, 53, 54, 55, 56, 57, 58, 59, 60, 61, 62, 63, 64, 65, 66, 67, 68, 69, 70, 71, 72, 73, 74, 75, 76, 77, 78, 79, 80, 81, 82, 83, 84, 85, 86, 87, 88, 89, 90, 91, 92, 93, 94, 95, 96, 97, 98, 99, 100, 101, 102, 103, 104, 105, 106, 107, 108, 109, 110, 111, 112, 113, 114, 115, 116, 117, 118, 119, 120, 121, 122, 123, 124, 125, 126, 127, 128, 129, 130, 131, 132, 133, 134, 135, 136, 137, 138, 139, 140, 141, 142, 143, 144, 145, 146, 147, 148, 149, 150, 151, 152, 153, 154, 155, 156, 157, 158, 159, 160, 161, 162, 163, 164, 165, 166, 167, 168, 877, 878, 879, 880, 881, 882, 883, 884, 885, 886, 887, 888, 889, 890, 891, 892, 893, 911, 912, 913, 914, 915, 916, 917, 918, 919, 920, 921, 909, 910, 894, 895, 896, 897, 898, 899, 900, 901, 902, 903, 904, 905, 906, 907, 908, 840, 841, 842, 843, 844, 845, 846, 847, 848, 849, 864, 865, 866, 867, 872, 873, 874, 875, 876, 831, 832, 833, 834, 835, 868, 869, 870, 871, 836, 837, 838, 839, 850, 851, 852, 853, 854, 855, 856, 857, 858, 859, 860, 861, 862, 863, 818, 819, 820, 821, 822, 823, 824, 825, 826, 827, 828, 829, 830] (by decide +kernel) (by decide +kernel)
set_option maxRecDepth 100000 in
theorem g_L_law_X11_init_9 : GoodIn v_L_law v_X11_init := gg_L_law_X11_init_9
set_option maxRecDepth 100000 in
theorem gg_L_law_X12_init_12 : GoodIn v_L_law v_X12_init := goodIn_r _ [169, 170, 12, 13, 57, 171, 172, 173, 174, 175, 176, 177, 178, 179, 180, 181, 182, 183, 184, 185, 186, 187, 188, 189, 190, 191, 192, 193, 194, 195, 196, 197, 198, 199, 200, 201, 202, 922, 923, 924, 925, 926, 927, 928, 929, 930, 931, 932, 933, 934, 935, 936, 937, 938, 939, 940, 941, 942, 943, 944, 945, 946, 947, 948, 949, 950, 951, 952, 953, 954, 955, 956, 957, 958, 959, 960, 961, 962, 963, 964, 965, 966, 967, 968, 969, 970, 971, 972, 973, 974, 975, 976, 977, 978, 979, 980] (by decide +kernel) (by decide +kernel)
set_option maxRecDepth 100000 in
theorem g_L_law_X12_init_12 : GoodIn v_L_law v_X12_init := gg_L_law_X12_init_12
set_option maxRecDepth 100000 in
theorem gg_L_law_X11_feed_13 : GoodIn v_L_law v_X11_feed := goodIn_r _ [206, 32, 207, 208, 209, 29, 210, 211, 212, 213, 214, 215, 121, 911, 912, 913, 914, 915, 916, 917, 918, 919, 920, 921, 894, 895, 896, 897, 898, 899, 900, 901, 902, 903, 904, 905, 906, 907, 908] (by decide +kernel) (by decide +kernel)
set_option maxRecDepth 100000 in
theorem g_L_law_X11_feed_13 : GoodIn v_L_law (wsV RL 13 RX11 yX11_feed v_X11_feed) := goodIn_app (goodIn_r _ [203, 204, 205, 2] (by decide +kernel) (by decide +kernel)) gg_L_law_X11_feed_13
set_option maxRecDepth 100000 in
theorem gg_L_law_X12_feed_17 : GoodIn v_L_law v_X12_feed := goodIn_r _ [219, 220, 221, 222, 223, 224, 7, 225, 176, 922, 923, 924, 925, 926, 927, 928, 929, 930, 931, 932, 933, 934, 935, 936, 937, 938, 939, 940, 941, 942, 943, 944, 945, 946, 947, 948, 949, 950, 951, 952, 953, 954, 955, 956, 957, 958, 959, 960, 961, 962, 963, 964, 965, 966, 967, 968, 969, 970, 971, 972, 973, 974, 975, 976, 977, 978, 979, 980] (by decide +kernel) (by decide +kernel)
set_option maxRecDepth 100000 in
theorem g_L_law_X12_feed_17 : GoodIn v_L_law (wsV RL 17 RX12 yX12_feed v_X12_feed) := goodIn_app (goodIn_r _ [216, 217, 218, 7] (by decide +kernel) (by decide +kernel)) gg_L_law_X12_feed_17
set_option maxRecDepth 100000 in
theorem gg_L_law_X11_end_18 : GoodIn v_L_law v_X11_end := goodIn_r _ [229, 32, 230, 231, 232, 29, 233, 211, 911, 912, 913, 914, 915, 916, 917, 918, 919, 920, 921, 894, 895, 896, 897, 898, 899, 900, 901, 902, 903, 904, 905, 906, 907, 908] (by decide +kernel) (by decide +kernel)
set_option maxRecDepth 100000 in
theorem g_L_law_X11_end_18 : GoodIn v_L_law (wsV RL 18 RX11 yX11_end v_X11_end) := goodIn_app (goodIn_r _ [226, 227, 228, 2] (by decide +kernel) (by decide +kernel)) gg_L_law_X11_end_18
set_option maxRecDepth 100000 in
theorem gg_L_law_X12_end_22 : GoodIn v_L_law v_X12_end := goodIn_r _ [237, 220, 221, 922, 923, 924, 925, 926, 927, 928, 929, 930, 931, 932, 933, 934, 935, 936, 937, 938, 939, 940, 941, 942, 943, 944, 945, 946, 947, 948, 949, 950, 951, 952, 953, 954, 955, 956, 957, 958, 959, 960, 961, 962, 963, 964, 965, 966, 967, 968, 969, 970, 971, 972, 973, 974, 975, 976, 977, 978, 979, 980] (by decide +kernel) (by decide +kernel)
set_option maxRecDepth 100000 in
theorem g_L_law_X12_end_22 : GoodIn v_L_law (wsV RL 22 RX12 yX12_end v_X12_end) := goodIn_app (goodIn_r _ [234, 235, 236, 7] (by decide +kernel) (by decide +kernel)) gg_L_law_X12_end_22
set_option maxRecDepth 100000 in
theorem gg_L_law_X11_load_23 : GoodIn v_L_law v_X11_load := goodIn_r _ [241, 26, 19, 242, 32, 243, 59, 244, 245, 246, 23, 247, 100, 248, 249, 250, 251, 252, 101, 253, 254, 255, 256, 2, 257, 258, 58, 259, 260, 261, 29, 262, 263, 264, 211, 122, 265, 124, 123, 266, 267, 268, 269, 270, 230, 231, 232, 233, 911, 912, 913, 914, 915, 916, 917, 918, 919, 920, 921, 877, 878, 879, 880, 881, 882, 883, 884, 885, 886, 887, 888, 889, 890, 891, 892, 893, 909, 910, 850, 851, 852, 853, 854, 855, 856, 857, 858, 859, 860, 861, 862, 863, 894, 895, 896, 897, 898, 899, 900, 901, 902, 903, 904, 905, 906, 907, 908] (by decide +kernel) (by decide +kernel)
set_option maxRecDepth 100000 in
theorem g_L_law_X11_load_23 : GoodIn v_L_law (wsV RL 23 RX11 yX11_load v_X11_load) := goodIn_app (goodIn_r _ [238, 239, 240, 2] (by decide +kernel) (by decide +kernel)) gg_L_law_X11_load_23
set_option maxRecDepth 100000 in
theorem gg_L_law_X12_load_26 : GoodIn v_L_law v_X12_load := goodIn_r _ [274, 220, 172, 175, 221, 275, 276, 277, 278, 7, 279, 280, 281, 282, 283, 284, 285, 286, 287, 288, 289, 290, 291, 292, 293, 294, 295, 296, 297, 298, 171, 299, 300, 301, 302, 303, 304, 305, 306, 307, 177, 308, 178, 309, 310, 311, 312, 313, 314, 315, 316, 317, 318, 319, 320, 321, 322, 323, 324, 325, 326, 327, 328, 922, 923, 924, 925, 926, 927, 928, 929, 930, 931, 932, 933, 934, 935, 936, 937, 938, 939, 940, 941, 942, 943, 944, 945, 946, 947, 948, 949, 950, 951, 952, 953, 954, 955, 956, 957, 958, 959, 960, 961, 962, 963, 964, 965, 966, 967, 968, 969, 970, 971, 972, 973, 974, 975, 976, 977, 978, 979, 980] (by decide +kernel) (by decide +kernel)
set_option maxRecDepth 100000 in
theorem g_L_law_X12_load_26 : GoodIn v_L_law (wsV RL 26 RX12 yX12_load v_X12_load) := goodIn_app (goodIn_r _ [271, 272, 273, 7] (by decide +kernel) (by decide +kernel)) gg_L_law_X12_load_26
set_option maxRecDepth 100000 in
theorem gg_L_law_X11_fault_27 : GoodIn v_L_law v_X11_fault := goodIn_r _ [332, 59, 911, 912, 913, 914, 915, 916, 917, 918, 919, 920, 921] (by decide +kernel) (by decide +kernel)
set_option maxRecDepth 100000 in
theorem g_L_law_X11_fault_27 : GoodIn v_L_law (wsV RL 27 RX11 yX11_fault v_X11_fault) := goodIn_app (goodIn_r _ [329, 330, 331, 2] (by decide +kernel) (by decide +kernel)) gg_L_law_X11_fault_27
set_option maxRecDepth 100000 in
theorem gg_L_law_X12_fault_31 : GoodIn v_L_law v_X12_fault := goodIn_r _ [336, 220, 177, 922, 923, 924, 925, 926, 927, 928, 929, 930, 931, 932, 933, 934, 935, 936, 937, 938, 939, 940, 941, 942, 943, 944, 945, 946, 947, 948, 949, 950, 951, 952, 953, 954, 955, 956, 957, 958, 959, 960, 961, 962, 963, 964, 965, 966, 967, 968, 969, 970, 971, 972, 973, 974, 975, 976, 977, 978, 979, 980] (by decide +kernel) (by decide +kernel)
set_option maxRecDepth 100000 in
theorem g_L_law_X12_fault_31 : GoodIn v_L_law (wsV RL 31 RX12 yX12_fault v_X12_fault) := goodIn_app (goodIn_r _ [333, 334, 335, 7] (by decide +kernel) (by decide +kernel)) gg_L_law_X12_fault_31
set_option maxRecDepth 100000 in
theorem gg_L_law_X11_call_32 : GoodIn v_L_law v_X11_call := goodIn_r _ [340, 341, 342, 343, 2, 344, 26, 345, 346, 347, 348, 244, 245, 246, 23, 247, 100, 248, 249, 250, 251, 252, 101, 253, 254, 255, 256, 257, 258, 58, 911, 912, 913, 914, 915, 916, 917, 918, 919, 920, 921, 909, 910, 850, 851, 852, 853, 854, 855, 856, 857, 858, 859, 860, 861, 862, 863, 877, 878, 879, 880, 881, 882, 883, 884, 885, 886, 887, 888, 889, 890, 891, 892, 893] (by decide +kernel) (by decide +kernel)
set_option maxRecDepth 100000 in
theorem g_L_law_X11_call_32 : GoodIn v_L_law (wsV RL 32 RX11 yX11_call v_X11_call) := goodIn_app (goodIn_r _ [337, 338, 339, 2] (by decide +kernel) (by decide +kernel)) gg_L_law_X11_call_32
set_option maxRecDepth 100000 in
theorem gg_L_law_X12_call_36 : GoodIn v_L_law v_X12_call := goodIn_r _ [352, 220, 353, 354, 7, 355, 356, 294, 295, 296, 297, 298, 171, 276, 277, 278, 279, 280, 281, 282, 283, 172, 284, 285, 286, 287, 288, 289, 290, 291, 292, 293, 922, 923, 924, 925, 926, 927, 928, 929, 930, 931, 932, 933, 934, 935, 936, 937, 938, 939, 940, 941, 942, 943, 944, 945, 946, 947, 948, 949, 950, 951, 952, 953, 954, 955, 956, 957, 958, 959, 960, 961, 962, 963, 964, 965, 966, 967, 968, 969, 970, 971, 972, 973, 974, 975, 976, 977, 978, 979, 980] (by decide +kernel) (by decide +kernel)
set_option maxRecDepth 100000 in
theorem g_L_law_X12_call_36 : GoodIn v_L_law (wsV RL 36 RX12 yX12_call v_X12_call) := goodIn_app (goodIn_r _ [349, 350, 351, 7] (by decide +kernel) (by decide +kernel)) gg_L_law_X12_call_36
set_option maxRecDepth 100000 in
theorem gg_L_law_X11_store_37 : GoodIn v_L_law v_X11_store := goodIn_r _ [360, 26, 345, 346, 2, 347, 348, 254, 255, 256, 257, 258, 58, 361, 362, 363, 23, 364, 365, 245, 246, 247, 100, 248, 249, 250, 251, 252, 101, 253, 911, 912, 913, 914, 915, 916, 917, 918, 919, 920, 921, 909, 910, 850, 851, 852, 853, 854, 855, 856, 857, 858, 859, 860, 861, 862, 863, 877, 878, 879, 880, 881, 882, 883, 884, 885, 886, 887, 888, 889, 890, 891, 892, 893] (by decide +kernel) (by decide +kernel)
set_option maxRecDepth 100000 in
theorem g_L_law_X11_store_37 : GoodIn v_L_law (wsV RL 37 RX11 yX11_store v_X11_store) := goodIn_app (goodIn_r _ [357, 358, 359, 2] (by decide +kernel) (by decide +kernel)) gg_L_law_X11_store_37
set_option maxRecDepth 100000 in
theorem gg_L_law_X12_store_41 : GoodIn v_L_law v_X12_store := goodIn_r _ [369, 220, 353, 354, 7, 355, 356, 294, 295, 296, 297, 298, 171, 276, 277, 278, 279, 280, 281, 282, 283, 172, 284, 285, 286, 287, 288, 289, 290, 291, 292, 293, 922, 923, 924, 925, 926, 927, 928, 929, 930, 931, 932, 933, 934, 935, 936, 937, 938, 939, 940, 941, 942, 943, 944, 945, 946, 947, 948, 949, 950, 951, 952, 953, 954, 955, 956, 957, 958, 959, 960, 961, 962, 963, 964, 965, 966, 967, 968, 969, 970, 971, 972, 973, 974, 975, 976, 977, 978, 979, 980] (by decide +kernel) (by decide +kernel)
set_option maxRecDepth 100000 in
theorem g_L_law_X12_store_41 : GoodIn v_L_law (wsV RL 41 RX12 yX12_store v_X12_store) := goodIn_app (goodIn_r _ [366, 367, 368, 7] (by decide +kernel) (by decide +kernel)) gg_L_law_X12_store_41
set_option maxRecDepth 100000 in
theorem gg_L_law_X11_power_42 : GoodIn v_L_law v_X11_power := goodIn_r _ [373, 374, 375, 376, 2, 377, 378, 379, 380, 381, 26, 244, 245, 246, 23, 247, 100, 248, 249, 250, 251, 252, 101, 253, 254, 255, 256, 257, 258, 58, 911, 912, 913, 914, 915, 916, 917, 918, 919, 920, 921, 909, 910, 850, 851, 852, 853, 854, 855, 856, 857, 858, 859, 860, 861, 862, 863, 877, 878, 879, 880, 881, 882, 883, 884, 885, 886, 887, 888, 889, 890, 891, 892, 893] (by decide +kernel) (by decide +kernel)
set_option maxRecDepth 100000 in
theorem g_L_law_X11_power_42 : GoodIn v_L_law (wsV RL 42 RX11 yX11_power v_X11_power) := goodIn_app (goodIn_r _ [370, 371, 372, 2] (by decide +kernel) (by decide +kernel)) gg_L_law_X11_power_42
set_option maxRecDepth 100000 in
theorem gg_L_law_X12_power_45 : GoodIn v_L_law v_X12_power := goodIn_r _ [385, 220, 386, 284, 285, 7, 286, 294, 295, 296, 297, 298, 171, 387, 388, 389, 390, 276, 277, 278, 279, 280, 281, 282, 283, 172, 287, 288, 289, 290, 291, 292, 293, 922, 923, 924, 925, 926, 927, 928, 929, 930, 931, 932, 933, 934, 935, 936, 937, 938, 939, 940, 941, 942, 943, 944, 945, 946, 947, 948, 949, 950, 951, 952, 953, 954, 955, 956, 957, 958, 959, 960, 961, 962, 963, 964, 965, 966, 967, 968, 969, 970, 971, 972, 973, 974, 975, 976, 977, 978, 979, 980] (by decide +kernel) (by decide +kernel)
set_option maxRecDepth 100000 in
theorem g_L_law_X12_power_45 : GoodIn v_L_law (wsV RL 45 RX12 yX12_power v_X12_power) := goodIn_app (goodIn_r _ [382, 383, 384, 7] (by decide +kernel) (by decide +kernel)) gg_L_law_X12_power_45
set_option maxRecDepth 100000 in
theorem gg_L_law_X11_arm_46 : GoodIn v_L_law v_X11_arm := goodIn_r _ [394, 378, 379, 380, 2, 381, 26, 244, 245, 246, 23, 247, 100, 248, 249, 250, 251, 252, 101, 253, 254, 255, 256, 257, 258, 58, 911, 912, 913, 914, 915, 916, 917, 918, 919, 920, 921, 909, 910, 850, 851, 852, 853, 854, 855, 856, 857, 858, 859, 860, 861, 862, 863, 877, 878, 879, 880, 881, 882, 883, 884, 885, 886, 887, 888, 889, 890, 891, 892, 893] (by decide +kernel) (by decide +kernel)
set_option maxRecDepth 100000 in
theorem g_L_law_X11_arm_46 : GoodIn v_L_law (wsV RL 46 RX11 yX11_arm v_X11_arm) := goodIn_app (goodIn_r _ [391, 392, 393, 2] (by decide +kernel) (by decide +kernel)) gg_L_law_X11_arm_46
set_option maxRecDepth 100000 in
theorem gg_L_law_X12_arm_49 : GoodIn v_L_law v_X12_arm := goodIn_r _ [398, 220, 387, 388, 389, 7, 390, 276, 277, 278, 279, 280, 281, 282, 283, 172, 284, 285, 286, 287, 288, 289, 290, 291, 292, 293, 294, 295, 296, 297, 298, 171, 922, 923, 924, 925, 926, 927, 928, 929, 930, 931, 932, 933, 934, 935, 936, 937, 938, 939, 940, 941, 942, 943, 944, 945, 946, 947, 948, 949, 950, 951, 952, 953, 954, 955, 956, 957, 958, 959, 960, 961, 962, 963, 964, 965, 966, 967, 968, 969, 970, 971, 972, 973, 974, 975, 976, 977, 978, 979, 980] (by decide +kernel) (by decide +kernel)
set_option maxRecDepth 100000 in
theorem g_L_law_X12_arm_49 : GoodIn v_L_law (wsV RL 49 RX12 yX12_arm v_X12_arm) := goodIn_app (goodIn_r _ [395, 396, 397, 7] (by decide +kernel) (by decide +kernel)) gg_L_law_X12_arm_49
set_option maxRecDepth 100000 in
theorem gg_L_law_X11_disarm_50 : GoodIn v_L_law v_X11_disarm := goodIn_r _ [402, 378, 379, 380, 2, 381, 26, 244, 245, 246, 23, 247, 100, 248, 249, 250, 251, 252, 101, 253, 254, 255, 256, 257, 258, 58, 911, 912, 913, 914, 915, 916, 917, 918, 919, 920, 921, 909, 910, 850, 851, 852, 853, 854, 855, 856, 857, 858, 859, 860, 861, 862, 863, 877, 878, 879, 880, 881, 882, 883, 884, 885, 886, 887, 888, 889, 890, 891, 892, 893] (by decide +kernel) (by decide +kernel)
set_option maxRecDepth 100000 in
theorem g_L_law_X11_disarm_50 : GoodIn v_L_law (wsV RL 50 RX11 yX11_disarm v_X11_disarm) := goodIn_app (goodIn_r _ [399, 400, 401, 2] (by decide +kernel) (by decide +kernel)) gg_L_law_X11_disarm_50
set_option maxRecDepth 100000 in
theorem gg_L_law_X12_disarm_53 : GoodIn v_L_law v_X12_disarm := goodIn_r _ [406, 220, 387, 388, 389, 7, 390, 276, 277, 278, 279, 280, 281, 282, 283, 172, 284, 285, 286, 287, 288, 289, 290, 291, 292, 293, 294, 295, 296, 297, 298, 171, 922, 923, 924, 925, 926, 927, 928, 929, 930, 931, 932, 933, 934, 935, 936, 937, 938, 939, 940, 941, 942, 943, 944, 945, 946, 947, 948, 949, 950, 951, 952, 953, 954, 955, 956, 957, 958, 959, 960, 961, 962, 963, 964, 965, 966, 967, 968, 969, 970, 971, 972, 973, 974, 975, 976, 977, 978, 979, 980] (by decide +kernel) (by decide +kernel)
set_option maxRecDepth 100000 in
theorem g_L_law_X12_disarm_53 : GoodIn v_L_law (wsV RL 53 RX12 yX12_disarm v_X12_disarm) := goodIn_app (goodIn_r _ [403, 404, 405, 7] (by decide +kernel) (by decide +kernel)) gg_L_law_X12_disarm_53
set_option maxRecDepth 100000 in
theorem gg_L_law_X11_rest_54 : GoodIn v_L_law v_X11_rest := goodIn_r _ [410, 411, 412, 413, 2, 414, 19, 242, 50, 415, 416, 417, 47, 418, 419, 420, 421, 422, 158, 423, 424, 425, 23, 426, 101, 253, 427, 428, 429, 430, 254, 255, 256, 257, 258, 58, 911, 912, 913, 914, 915, 916, 917, 918, 919, 920, 921, 877, 878, 879, 880, 881, 882, 883, 884, 885, 886, 887, 888, 889, 890, 891, 892, 893, 872, 873, 874, 875, 876, 909, 910] (by decide +kernel) (by decide +kernel)
set_option maxRecDepth 100000 in
theorem g_L_law_X11_rest_54 : GoodIn v_L_law (wsV RL 54 RX11 yX11_rest v_X11_rest) := goodIn_app (goodIn_r _ [407, 408, 409, 2] (by decide +kernel) (by decide +kernel)) gg_L_law_X11_rest_54
set_option maxRecDepth 100000 in
theorem gg_L_law_X12_rest_57 : GoodIn v_L_law v_X12_rest := goodIn_r _ [434, 220, 435, 436, 437, 7, 438, 439, 172, 284, 285, 286, 440, 441, 442, 443, 444, 445, 446, 447, 448, 449, 450, 451, 452, 453, 454, 455, 294, 295, 296, 297, 298, 171, 922, 923, 924, 925, 926, 927, 928, 929, 930, 931, 932, 933, 934, 935, 936, 937, 938, 939, 940, 941, 942, 943, 944, 945, 946, 947, 948, 949, 950, 951, 952, 953, 954, 955, 956, 957, 958, 959, 960, 961, 962, 963, 964, 965, 966, 967, 968, 969, 970, 971, 972, 973, 974, 975, 976, 977, 978, 979, 980] (by decide +kernel) (by decide +kernel)
set_option maxRecDepth 100000 in
theorem g_L_law_X12_rest_57 : GoodIn v_L_law (wsV RL 57 RX12 yX12_rest v_X12_rest) := goodIn_app (goodIn_r _ [431, 432, 433, 7] (by decide +kernel) (by decide +kernel)) gg_L_law_X12_rest_57
set_option maxRecDepth 100000 in
theorem gg_L_law_X11_raise_58 : GoodIn v_L_law v_X11_raise := goodIn_r _ [459, 56, 50, 460, 461, 2, 462, 254, 255, 256, 257, 258, 58, 463, 464, 465, 466, 19, 467, 468, 469, 470, 53, 471, 165, 472, 167, 166, 473, 474, 475, 476, 477, 478, 479, 480, 16, 481, 62, 482, 483, 63, 484, 485, 486, 487, 64, 65, 66, 67, 68, 69, 70, 71, 72, 73, 78, 84, 85, 488, 489, 490, 76, 491, 88, 492, 493, 494, 495, 496, 497, 498, 81, 499, 91, 500, 92, 501, 502, 503, 504, 505, 47, 506, 160, 159, 507, 508, 509, 510, 511, 512, 35, 513, 514, 515, 516, 517, 518, 519, 520, 521, 522, 911, 912, 913, 914, 915, 916, 917, 918, 919, 920, 921, 877, 878, 879, 880, 881, 882, 883, 884, 885, 886, 887, 888, 889, 890, 891, 892, 893, 831, 832, 833, 834, 835, 868, 869, 870, 871, 836, 837, 838, 839, 872, 873, 874, 875, 876, 840, 841, 842, 843, 844, 845, 846, 847, 848, 849] (by decide +kernel) (by decide +kernel)
set_option maxRecDepth 100000 in
theorem g_L_law_X11_raise_58 : GoodIn v_L_law (wsV RL 58 RX11 yX11_raise v_X11_raise) := goodIn_app (goodIn_r _ [456, 457, 458, 2] (by decide +kernel) (by decide +kernel)) gg_L_law_X11_raise_58
set_option maxRecDepth 100000 in
theorem gg_L_law_X12_raise_61 : GoodIn v_L_law v_X12_raise := goodIn_r _ [526, 220, 527, 172, 528, 284, 285, 7, 286, 294, 295, 296, 297, 298, 171, 529, 530, 531, 532, 533, 173, 174, 299, 300, 301, 534, 535, 536, 537, 922, 923, 924, 925, 926, 927, 928, 929, 930, 931, 932, 933, 934, 935, 936, 937, 938, 939, 940, 941, 942, 943, 944, 945, 946, 947, 948, 949, 950, 951, 952, 953, 954, 955, 956, 957, 958, 959, 960, 961, 962, 963, 964, 965, 966, 967, 968, 969, 970, 971, 972, 973, 974, 975, 976, 977, 978, 979, 980] (by decide +kernel) (by decide +kernel)
set_option maxRecDepth 100000 in
theorem g_L_law_X12_raise_61 : GoodIn v_L_law (wsV RL 61 RX12 yX12_raise v_X12_raise) := goodIn_app (goodIn_r _ [523, 524, 525, 7] (by decide +kernel) (by decide +kernel)) gg_L_law_X12_raise_61
set_option maxRecDepth 100000 in
theorem gg_L_law_X11_clear_62 : GoodIn v_L_law v_X11_clear := goodIn_r _ [541, 460, 461, 2, 462, 254, 255, 256, 257, 258, 58, 463, 464, 465, 466, 19, 467, 911, 912, 913, 914, 915, 916, 917, 918, 919, 920, 921, 877, 878, 879, 880, 881, 882, 883, 884, 885, 886, 887, 888, 889, 890, 891, 892, 893] (by decide +kernel) (by decide +kernel)
set_option maxRecDepth 100000 in
theorem g_L_law_X11_clear_62 : GoodIn v_L_law (wsV RL 62 RX11 yX11_clear v_X11_clear) := goodIn_app (goodIn_r _ [538, 539, 540, 2] (by decide +kernel) (by decide +kernel)) gg_L_law_X11_clear_62
set_option maxRecDepth 100000 in
theorem gg_L_law_X12_clear_65 : GoodIn v_L_law v_X12_clear := goodIn_r _ [545, 220, 527, 172, 284, 285, 7, 286, 294, 295, 296, 297, 298, 171, 922, 923, 924, 925, 926, 927, 928, 929, 930, 931, 932, 933, 934, 935, 936, 937, 938, 939, 940, 941, 942, 943, 944, 945, 946, 947, 948, 949, 950, 951, 952, 953, 954, 955, 956, 957, 958, 959, 960, 961, 962, 963, 964, 965, 966, 967, 968, 969, 970, 971, 972, 973, 974, 975, 976, 977, 978, 979, 980] (by decide +kernel) (by decide +kernel)
set_option maxRecDepth 100000 in
theorem g_L_law_X12_clear_65 : GoodIn v_L_law (wsV RL 65 RX12 yX12_clear v_X12_clear) := goodIn_app (goodIn_r _ [542, 543, 544, 7] (by decide +kernel) (by decide +kernel)) gg_L_law_X12_clear_65
set_option maxRecDepth 100000 in
theorem gg_L_law_X11_undo_66 : GoodIn v_L_law v_X11_undo := goodIn_r _ [549, 56, 550, 551, 552, 53, 553, 473, 254, 255, 256, 2, 257, 258, 58, 911, 912, 913, 914, 915, 916, 917, 918, 919, 920, 921, 831, 832, 833, 834, 835] (by decide +kernel) (by decide +kernel)
set_option maxRecDepth 100000 in
theorem g_L_law_X11_undo_66 : GoodIn v_L_law (wsV RL 66 RX11 yX11_undo v_X11_undo) := goodIn_app (goodIn_r _ [546, 547, 548, 2] (by decide +kernel) (by decide +kernel)) gg_L_law_X11_undo_66
set_option maxRecDepth 100000 in
theorem gg_L_law_X12_undo_69 : GoodIn v_L_law v_X12_undo := goodIn_r _ [557, 220, 533, 294, 295, 296, 7, 297, 298, 171, 922, 923, 924, 925, 926, 927, 928, 929, 930, 931, 932, 933, 934, 935, 936, 937, 938, 939, 940, 941, 942, 943, 944, 945, 946, 947, 948, 949, 950, 951, 952, 953, 954, 955, 956, 957, 958, 959, 960, 961, 962, 963, 964, 965, 966, 967, 968, 969, 970, 971, 972, 973, 974, 975, 976, 977, 978, 979, 980] (by decide +kernel) (by decide +kernel)
set_option maxRecDepth 100000 in
theorem g_L_law_X12_undo_69 : GoodIn v_L_law (wsV RL 69 RX12 yX12_undo v_X12_undo) := goodIn_app (goodIn_r _ [554, 555, 556, 7] (by decide +kernel) (by decide +kernel)) gg_L_law_X12_undo_69
set_option maxRecDepth 100000 in
theorem gg_L_law_X11_node_70 : GoodIn v_L_law v_X11_node := goodIn_r _ [561, 26, 562, 563, 564, 565, 566, 250, 251, 23, 252, 101, 253, 567, 568, 569, 2, 570, 571, 572, 573, 574, 19, 575, 576, 911, 912, 913, 914, 915, 916, 917, 918, 919, 920, 921, 909, 910, 850, 851, 852, 853, 854, 855, 856, 857, 858, 859, 860, 861, 862, 863, 877, 878, 879, 880, 881, 882, 883, 884, 885, 886, 887, 888, 889, 890, 891, 892, 893] (by decide +kernel) (by decide +kernel)
set_option maxRecDepth 100000 in
theorem g_L_law_X11_node_70 : GoodIn v_L_law (wsV RL 70 RX11 yX11_node v_X11_node) := goodIn_app (goodIn_r _ [558, 559, 560, 2] (by decide +kernel) (by decide +kernel)) gg_L_law_X11_node_70
set_option maxRecDepth 100000 in
theorem gg_L_law_X12_node_73 : GoodIn v_L_law v_X12_node := goodIn_r _ [580, 220, 581, 172, 280, 281, 282, 7, 283, 284, 285, 286, 291, 292, 293, 287, 288, 289, 290, 582, 583, 584, 585, 922, 923, 924, 925, 926, 927, 928, 929, 930, 931, 932, 933, 934, 935, 936, 937, 938, 939, 940, 941, 942, 943, 944, 945, 946, 947, 948, 949, 950, 951, 952, 953, 954, 955, 956, 957, 958, 959, 960, 961, 962, 963, 964, 965, 966, 967, 968, 969, 970, 971, 972, 973, 974, 975, 976, 977, 978, 979, 980] (by decide +kernel) (by decide +kernel)
set_option maxRecDepth 100000 in
theorem g_L_law_X12_node_73 : GoodIn v_L_law (wsV RL 73 RX12 yX12_node v_X12_node) := goodIn_app (goodIn_r _ [577, 578, 579, 7] (by decide +kernel) (by decide +kernel)) gg_L_law_X12_node_73
