theorem inlX0 : ∀ w ∈ wsX00, w ∈ wsL_law := fun _ h => List.mem_append_left _ (List.mem_append_left _ (List.mem_append_left _ (List.mem_append_left _ (List.mem_append_left _ (List.mem_append_left _ (List.mem_append_right _ h))))))
theorem inlX1 : ∀ w ∈ wsX10, w ∈ wsL_law := fun _ h => List.mem_append_left _ (List.mem_append_right _ h)
theorem inlX2 : ∀ w ∈ wsX20, w ∈ wsL_law := fun _ h => List.mem_append_left _ (List.mem_append_left _ (List.mem_append_left _ (List.mem_append_left _ (List.mem_append_left _ (List.mem_append_left _ (List.mem_append_left _ (List.mem_append_right _ h)))))))
theorem inlX3 : ∀ w ∈ wsX30, w ∈ wsL_law := fun _ h => List.mem_append_left _ (List.mem_append_left _ (List.mem_append_right _ h))
theorem inlX4 : ∀ w ∈ wsX40, w ∈ wsL_law := fun _ h => List.mem_append_left _ (List.mem_append_left _ (List.mem_append_left _ (List.mem_append_right _ h)))
theorem inlX5 : ∀ w ∈ wsX50, w ∈ wsL_law := fun _ h => List.mem_append_left _ (List.mem_append_left _ (List.mem_append_left _ (List.mem_append_left _ (List.mem_append_left _ (List.mem_append_left _ (List.mem_append_left _ (List.mem_append_left _ (List.mem_append_left _ (List.mem_append_right _ h)))))))))
theorem inlX6 : ∀ w ∈ wsX60, w ∈ wsL_law := fun _ h => List.mem_append_left _ (List.mem_append_left _ (List.mem_append_left _ (List.mem_append_left _ (List.mem_append_right _ h))))
theorem inlX7 : ∀ w ∈ wsX70, w ∈ wsL_law := fun _ h => List.mem_append_left _ (List.mem_append_left _ (List.mem_append_left _ (List.mem_append_left _ (List.mem_append_left _ (List.mem_append_right _ h)))))
theorem inlX8 : ∀ w ∈ wsX80, w ∈ wsL_law := fun _ h => List.mem_append_left _ (List.mem_append_left _ (List.mem_append_left _ (List.mem_append_left _ (List.mem_append_left _ (List.mem_append_left _ (List.mem_append_left _ (List.mem_append_left _ (List.mem_append_right _ h))))))))
theorem inlX9 : ∀ w ∈ wsX90, w ∈ wsL_law := fun _ h => List.mem_append_left _ (List.mem_append_left _ (List.mem_append_left _ (List.mem_append_left _ (List.mem_append_left _ (List.mem_append_left _ (List.mem_append_left _ (List.mem_append_left _ (List.mem_append_left _ (List.mem_append_left _ (List.mem_append_left _ (List.mem_append_right _ h)))))))))))
theorem inlX10 : ∀ w ∈ wsX100, w ∈ wsL_law := fun _ h => List.mem_append_left _ (List.mem_append_left _ (List.mem_append_left _ (List.mem_append_left _ (List.mem_append_left _ (List.mem_append_left _ (List.mem_append_left _ (List.mem_append_left _ (List.mem_append_left _ (List.mem_append_left _ (List.mem_append_right _ h))))))))))
set_option maxRecDepth 20000 in
theorem ggL_law_X9_init : GoodIn wsL_law wsX9_init := goodIn_r _ [8, 9, 10, 11, 12, 13, 14, 15, 16, 17, 18, 19, 20, 21, 22, 23, 24, 25, 26, 27, 28, 29, 30, 31, 32, 33, 34, 35, 36, 37, 38, 39, 40, 41, 42, 43, 44, 45, 46, 47, 48, 49, 50, 51, 52, 53, 54, 55, 56, 57, 58, 59, 60, 61, 62, 63, 64, 65, 66, 67, 68, 69, 70, 71, 72, 73, 74, 75, 76, 77, 78, 79, 80, 81, 82, 83, 84, 85, 86, 87, 88, 89, 90, 91, 92, 93, 94, 95, 96, 97, 98, 99, 100, 101, 102, 103, 104, 105, 106, 107, 108, 109, 110, 111, 112, 113, 114, 115, 116, 117, 118, 119, 120, 121, 122, 123, 124, 2, 125, 126, 127, 128, 129, 130, 131, 132, 133, 134, 135, 136, 137, 138, 139, 140, 141, 142, 143, 144, 145, 146, 147, 148, 149, 150, 151, 152, 153, 154, 155, 156, 157, 158, 159, 160, 161, 162, 163, 164, 165, 166, 167, 168, 169, 170, 171, 172, 173, 174, 175, 176, 177, 178, 179, 180, 181, 182, 183, 184, 185, 186, 919, 920, 921, 922, 923, 924, 925, 883, 884, 885, 886, 887, 888, 889, 926, 927, 928, 929, 930, 931, 932, 933, 934, 935, 936, 937, 938, 939, 940, 941, 942, 943, 944, 945, 946, 947, 948] (by decide +kernel) (by decide +kernel)
set_option maxRecDepth 20000 in
theorem gL_law_X9_init : GoodIn wsL_law (wsX9_init) := ggL_law_X9_init
set_option maxRecDepth 20000 in
theorem ggL_law_X10_init : GoodIn wsL_law wsX10_init := goodIn_r _ [189, 190, 10, 11, 191, 65, 192, 193, 194, 195, 196, 197, 198, 199, 200, 201, 202, 203, 204, 17, 205, 206, 207, 208, 209, 210, 211, 212, 213, 214, 5, 215, 216, 217, 218, 219, 220, 221, 222, 223, 224, 225, 226, 227, 228, 229, 230, 231, 232, 233, 234, 235, 236, 237, 238, 239, 240, 241, 242, 243, 244, 245, 246, 890, 891, 892, 893, 894, 895, 896, 897, 898, 899, 900, 901, 902, 903, 904, 905, 906, 907, 908, 909, 910, 911, 912, 913, 914, 915, 916, 917, 918] (by decide +kernel) (by decide +kernel)
set_option maxRecDepth 20000 in
theorem gL_law_X10_init : GoodIn wsL_law (wsX10_init) := ggL_law_X10_init
set_option maxRecDepth 20000 in
theorem ggL_law_X9_setLevels : GoodIn wsL_law wsX9_setLevels := goodIn_r _ [250, 15, 37, 36, 160, 114, 115, 116, 49, 117, 118, 119, 120, 121, 74, 75, 76, 77, 251, 252, 253, 53, 254, 81, 122, 123, 124, 2, 125, 26, 30, 126, 127, 128, 14, 129, 42, 46, 130, 131, 132, 133, 25, 134, 96, 97, 98, 99, 135, 136, 137, 138, 139, 140, 141, 29, 142, 103, 143, 105, 104, 144, 145, 146, 147, 148, 149, 150, 151, 152, 153, 154, 155, 156, 157, 158, 159, 34, 161, 162, 163, 164, 58, 165, 86, 87, 166, 167, 168, 169, 170, 171, 172, 173, 174, 175, 176, 177, 178, 82, 179, 180, 181, 182, 183, 184, 185, 186, 883, 884, 885, 886, 887, 888, 889, 919, 920, 921, 922, 923, 924, 925, 941, 942, 943, 944, 945, 946, 939, 940, 928, 929, 930, 931, 932, 933, 934, 947, 948] (by decide +kernel) (by decide +kernel)
set_option maxRecDepth 20000 in
theorem gL_law_X9_setLevels : GoodIn wsL_law (wsV RL 13 RX9 yX9_setLevels wsX9_setLevels) := goodIn_app (goodIn_of _ (by decide +kernel)) ggL_law_X9_setLevels
set_option maxRecDepth 20000 in
theorem ggL_law_X10_setLevels : GoodIn wsL_law wsX10_setLevels := goodIn_r _ [258, 191, 259, 260, 194, 195, 242, 261, 262, 5, 263, 264, 265, 266, 267, 216, 217, 218, 219, 207, 206, 220, 221, 222, 223, 224, 225, 226, 227, 193, 228, 229, 230, 231, 232, 233, 234, 235, 236, 237, 197, 198, 199, 238, 239, 240, 241, 196, 243, 244, 245, 246, 210, 890, 891, 892, 893, 894, 895, 896, 897, 898, 899, 900, 901, 902, 903, 904, 905, 906, 907, 908, 909, 910, 911, 912, 913, 914, 915, 916, 917, 918] (by decide +kernel) (by decide +kernel)
set_option maxRecDepth 20000 in
theorem gL_law_X10_setLevels : GoodIn wsL_law (wsV RL 17 RX10 yX10_setLevels wsX10_setLevels) := goodIn_app (goodIn_of _ (by decide +kernel)) ggL_law_X10_setLevels
set_option maxRecDepth 20000 in
theorem ggL_law_X9_setCurve : GoodIn wsL_law wsX9_setCurve := goodIn_r _ [271, 15, 272, 122, 123, 124, 2, 125, 26, 37, 30, 36, 126, 127, 128, 14, 129, 42, 46, 130, 131, 132, 133, 25, 134, 96, 97, 98, 99, 135, 136, 137, 138, 139, 140, 141, 29, 142, 103, 143, 105, 104, 144, 145, 146, 147, 148, 149, 150, 151, 152, 153, 154, 49, 155, 74, 76, 75, 77, 156, 157, 158, 159, 34, 160, 161, 162, 163, 164, 58, 165, 86, 87, 166, 167, 168, 169, 170, 171, 172, 173, 53, 174, 81, 175, 176, 177, 178, 82, 179, 180, 181, 182, 183, 184, 185, 186, 883, 884, 885, 886, 887, 888, 889, 919, 920, 921, 922, 923, 924, 925, 939, 940, 928, 929, 930, 931, 932, 933, 934, 941, 942, 943, 944, 947, 948, 945, 946] (by decide +kernel) (by decide +kernel)
set_option maxRecDepth 20000 in
theorem gL_law_X9_setCurve : GoodIn wsL_law (wsV RL 18 RX9 yX9_setCurve wsX9_setCurve) := goodIn_app (goodIn_of _ (by decide +kernel)) ggL_law_X9_setCurve
set_option maxRecDepth 20000 in
theorem ggL_law_X10_setCurve : GoodIn wsL_law wsX10_setCurve := goodIn_r _ [276, 228, 261, 262, 5, 263, 216, 217, 218, 219, 191, 207, 206, 220, 221, 222, 223, 224, 225, 226, 227, 193, 229, 230, 231, 232, 233, 234, 235, 236, 237, 197, 198, 199, 238, 239, 240, 241, 242, 196, 243, 244, 245, 246, 210, 890, 891, 892, 893, 894, 895, 896, 897, 898, 899, 900, 901, 902, 903, 904, 905, 906, 907, 908, 909, 910, 911, 912, 913, 914, 915, 916, 917, 918] (by decide +kernel) (by decide +kernel)
set_option maxRecDepth 20000 in
theorem gL_law_X10_setCurve : GoodIn wsL_law (wsV RL 21 RX10 yX10_setCurve wsX10_setCurve) := goodIn_app (goodIn_of _ (by decide +kernel)) ggL_law_X10_setCurve
set_option maxRecDepth 20000 in
theorem ggL_law_X9_states : GoodIn wsL_law wsX9_states := goodIn_r _ [280, 15, 281, 282, 283, 14, 284, 42, 46, 285, 883, 884, 885, 886, 887, 888, 889, 919, 920, 921, 922, 923, 924, 925, 939, 940] (by decide +kernel) (by decide +kernel)
set_option maxRecDepth 20000 in
theorem gL_law_X9_states : GoodIn wsL_law (wsV RL 22 RX9 yX9_states wsX9_states) := goodIn_app (goodIn_of _ (by decide +kernel)) ggL_law_X9_states
set_option maxRecDepth 20000 in
theorem ggL_law_X10_states : GoodIn wsL_law wsX10_states := goodIn_r _ [289, 192, 228, 890, 891, 892, 893, 894, 895, 896, 897, 898, 899, 900, 901, 902, 903, 904, 905, 906, 907, 908, 909, 910, 911, 912, 913, 914, 915, 916, 917, 918] (by decide +kernel) (by decide +kernel)
set_option maxRecDepth 20000 in
theorem gL_law_X10_states : GoodIn wsL_law (wsV RL 26 RX10 yX10_states wsX10_states) := goodIn_app (goodIn_of _ (by decide +kernel)) ggL_law_X10_states
set_option maxRecDepth 20000 in
theorem ggL_law_X9_visit : GoodIn wsL_law wsX9_visit := goodIn_r _ [293, 15, 281, 282, 283, 14, 284, 42, 46, 285, 126, 127, 128, 129, 130, 883, 884, 885, 886, 887, 888, 889, 919, 920, 921, 922, 923, 924, 925, 939, 940] (by decide +kernel) (by decide +kernel)
set_option maxRecDepth 20000 in
theorem gL_law_X9_visit : GoodIn wsL_law (wsV RL 27 RX9 yX9_visit wsX9_visit) := goodIn_app (goodIn_of _ (by decide +kernel)) ggL_law_X9_visit
set_option maxRecDepth 20000 in
theorem ggL_law_X10_visit : GoodIn wsL_law wsX10_visit := goodIn_r _ [297, 192, 228, 261, 262, 5, 263, 224, 225, 226, 227, 193, 229, 230, 231, 232, 890, 891, 892, 893, 894, 895, 896, 897, 898, 899, 900, 901, 902, 903, 904, 905, 906, 907, 908, 909, 910, 911, 912, 913, 914, 915, 916, 917, 918] (by decide +kernel) (by decide +kernel)
set_option maxRecDepth 20000 in
theorem gL_law_X10_visit : GoodIn wsL_law (wsV RL 31 RX10 yX10_visit wsX10_visit) := goodIn_app (goodIn_of _ (by decide +kernel)) ggL_law_X10_visit
set_option maxRecDepth 20000 in
theorem ggL_law_X9_index : GoodIn wsL_law wsX9_index := goodIn_r _ [301, 26, 302, 303, 304, 25, 305, 96, 306, 180, 181, 182, 99, 883, 884, 885, 886, 887, 888, 889, 928, 929, 930, 931] (by decide +kernel) (by decide +kernel)
set_option maxRecDepth 20000 in
theorem gL_law_X9_index : GoodIn wsL_law (wsV RL 32 RX9 yX9_index wsX9_index) := goodIn_app (goodIn_of _ (by decide +kernel)) ggL_law_X9_index
set_option maxRecDepth 20000 in
theorem ggL_law_X10_index : GoodIn wsL_law wsX10_index := goodIn_r _ [310, 206, 311, 312, 313, 5, 314, 264, 265, 266, 267, 191, 261, 262, 263, 890, 891, 892, 893, 894, 895, 896, 897, 898, 899, 900, 901, 902, 903, 904, 905, 906, 907, 908, 909, 910, 911, 912, 913, 914, 915, 916, 917, 918] (by decide +kernel) (by decide +kernel)
set_option maxRecDepth 20000 in
theorem gL_law_X10_index : GoodIn wsL_law (wsV RL 35 RX10 yX10_index wsX10_index) := goodIn_app (goodIn_of _ (by decide +kernel)) ggL_law_X10_index
set_option maxRecDepth 20000 in
theorem ggL_law_X9_cell : GoodIn wsL_law wsX9_cell := goodIn_r _ [318, 26, 319, 320, 149, 150, 25, 151, 98, 321, 145, 146, 147, 883, 884, 885, 886, 887, 888, 889, 928, 929, 930, 931] (by decide +kernel) (by decide +kernel)
set_option maxRecDepth 20000 in
theorem gL_law_X9_cell : GoodIn wsL_law (wsV RL 36 RX9 yX9_cell wsX9_cell) := goodIn_app (goodIn_of _ (by decide +kernel)) ggL_law_X9_cell
set_option maxRecDepth 20000 in
theorem ggL_law_X10_cell : GoodIn wsL_law wsX10_cell := goodIn_r _ [325, 207, 220, 221, 222, 5, 223, 191, 261, 262, 263, 890, 891, 892, 893, 894, 895, 896, 897, 898, 899, 900, 901, 902, 903, 904, 905, 906, 907, 908, 909, 910, 911, 912, 913, 914, 915, 916, 917, 918] (by decide +kernel) (by decide +kernel)
set_option maxRecDepth 20000 in
theorem gL_law_X10_cell : GoodIn wsL_law (wsV RL 40 RX10 yX10_cell wsX10_cell) := goodIn_app (goodIn_of _ (by decide +kernel)) ggL_law_X10_cell
set_option maxRecDepth 20000 in
theorem ggL_law_X9_breaks : GoodIn wsL_law wsX9_breaks := goodIn_r _ [329, 26, 330, 331, 332, 25, 333, 97, 334, 335, 336, 337, 338, 145, 146, 147, 98, 339, 149, 150, 151, 883, 884, 885, 886, 887, 888, 889, 928, 929, 930, 931] (by decide +kernel) (by decide +kernel)
set_option maxRecDepth 20000 in
theorem gL_law_X9_breaks : GoodIn wsL_law (wsV RL 41 RX9 yX9_breaks wsX9_breaks) := goodIn_app (goodIn_of _ (by decide +kernel)) ggL_law_X9_breaks
set_option maxRecDepth 20000 in
theorem ggL_law_X10_breaks : GoodIn wsL_law wsX10_breaks := goodIn_r _ [343, 344, 345, 346, 5, 347, 207, 220, 221, 222, 223, 191, 348, 349, 350, 351, 352, 353, 890, 891, 892, 893, 894, 895, 896, 897, 898, 899, 900, 901, 902, 903, 904, 905, 906, 907, 908, 909, 910, 911, 912, 913, 914, 915, 916, 917, 918] (by decide +kernel) (by decide +kernel)
set_option maxRecDepth 20000 in
theorem gL_law_X10_breaks : GoodIn wsL_law (wsV RL 44 RX10 yX10_breaks wsX10_breaks) := goodIn_app (goodIn_of _ (by decide +kernel)) ggL_law_X10_breaks
set_option maxRecDepth 20000 in
theorem ggL_law_X9_stretch : GoodIn wsL_law wsX9_stretch := goodIn_r _ [357, 26, 358, 359, 360, 25, 361, 96, 334, 335, 336, 337, 362, 363, 364, 365, 180, 181, 182, 99, 883, 884, 885, 886, 887, 888, 889, 928, 929, 930, 931] (by decide +kernel) (by decide +kernel)
set_option maxRecDepth 20000 in
theorem gL_law_X9_stretch : GoodIn wsL_law (wsV RL 45 RX9 yX9_stretch wsX9_stretch) := goodIn_app (goodIn_of _ (by decide +kernel)) ggL_law_X9_stretch
set_option maxRecDepth 20000 in
theorem ggL_law_X10_stretch : GoodIn wsL_law wsX10_stretch := goodIn_r _ [369, 370, 371, 372, 5, 373, 207, 206, 220, 221, 222, 223, 191, 264, 265, 266, 267, 351, 352, 353, 890, 891, 892, 893, 894, 895, 896, 897, 898, 899, 900, 901, 902, 903, 904, 905, 906, 907, 908, 909, 910, 911, 912, 913, 914, 915, 916, 917, 918] (by decide +kernel) (by decide +kernel)
set_option maxRecDepth 20000 in
theorem gL_law_X10_stretch : GoodIn wsL_law (wsV RL 48 RX10 yX10_stretch wsX10_stretch) := goodIn_app (goodIn_of _ (by decide +kernel)) ggL_law_X10_stretch
set_option maxRecDepth 20000 in
theorem ggL_law_X9_append : GoodIn wsL_law wsX9_append := goodIn_r _ [377, 22, 378, 379, 380, 381, 21, 382, 91, 92, 883, 884, 885, 886, 887, 888, 889, 926, 927] (by decide +kernel) (by decide +kernel)
set_option maxRecDepth 20000 in
theorem gL_law_X9_append : GoodIn wsL_law (wsV RL 49 RX9 yX9_append wsX9_append) := goodIn_app (goodIn_of _ (by decide +kernel)) ggL_law_X9_append
set_option maxRecDepth 20000 in
theorem ggL_law_X10_append : GoodIn wsL_law wsX10_append := goodIn_r _ [386, 387, 200, 261, 262, 5, 263, 890, 891, 892, 893, 894, 895, 896, 897, 898, 899, 900, 901, 902, 903, 904, 905, 906, 907, 908, 909, 910, 911, 912, 913, 914, 915, 916, 917, 918] (by decide +kernel) (by decide +kernel)
set_option maxRecDepth 20000 in
theorem gL_law_X10_append : GoodIn wsL_law (wsV RL 52 RX10 yX10_append wsX10_append) := goodIn_app (goodIn_of _ (by decide +kernel)) ggL_law_X10_append
set_option maxRecDepth 20000 in
theorem ggL_law_X9_clearText : GoodIn wsL_law wsX9_clearText := goodIn_r _ [391, 22, 378, 883, 884, 885, 886, 887, 888, 889, 926, 927] (by decide +kernel) (by decide +kernel)
set_option maxRecDepth 20000 in
theorem gL_law_X9_clearText : GoodIn wsL_law (wsV RL 53 RX9 yX9_clearText wsX9_clearText) := goodIn_app (goodIn_of _ (by decide +kernel)) ggL_law_X9_clearText
set_option maxRecDepth 20000 in
theorem ggL_law_X10_clearText : GoodIn wsL_law wsX10_clearText := goodIn_r _ [395, 387, 890, 891, 892, 893, 894, 895, 896, 897, 898, 899, 900, 901, 902, 903, 904, 905, 906, 907, 908, 909, 910, 911, 912, 913, 914, 915, 916, 917, 918] (by decide +kernel) (by decide +kernel)
set_option maxRecDepth 20000 in
theorem gL_law_X10_clearText : GoodIn wsL_law (wsV RL 56 RX10 yX10_clearText wsX10_clearText) := goodIn_app (goodIn_of _ (by decide +kernel)) ggL_law_X10_clearText
set_option maxRecDepth 20000 in
theorem ggL_law_X9_faultPosition : GoodIn wsL_law wsX9_faultPosition := goodIn_r _ [399, 22, 400, 401, 402, 21, 403, 404, 405, 406, 407, 91, 408, 409, 410, 411, 92, 412, 413, 414, 415, 416, 417, 418, 419, 420, 421, 422, 423, 424, 425, 426, 427, 883, 884, 885, 886, 887, 888, 889, 926, 927] (by decide +kernel) (by decide +kernel)
set_option maxRecDepth 20000 in
theorem gL_law_X9_faultPosition : GoodIn wsL_law (wsV RL 57 RX9 yX9_faultPosition wsX9_faultPosition) := goodIn_app (goodIn_of _ (by decide +kernel)) ggL_law_X9_faultPosition
set_option maxRecDepth 20000 in
theorem ggL_law_X10_faultPosition : GoodIn wsL_law wsX10_faultPosition := goodIn_r _ [431, 432, 433, 434, 5, 435, 387, 200, 436, 437, 438, 439, 261, 262, 263, 890, 891, 892, 893, 894, 895, 896, 897, 898, 899, 900, 901, 902, 903, 904, 905, 906, 907, 908, 909, 910, 911, 912, 913, 914, 915, 916, 917, 918] (by decide +kernel) (by decide +kernel)
set_option maxRecDepth 20000 in
theorem gL_law_X10_faultPosition : GoodIn wsL_law (wsV RL 60 RX10 yX10_faultPosition wsX10_faultPosition) := goodIn_app (goodIn_of _ (by decide +kernel)) ggL_law_X10_faultPosition
set_option maxRecDepth 20000 in
theorem ggL_law_X9_read : GoodIn wsL_law wsX9_read := goodIn_r _ [443, 22, 15, 444, 272, 445, 400, 401, 402, 21, 403, 404, 405, 406, 407, 91, 408, 409, 410, 411, 92, 412, 413, 414, 415, 416, 417, 418, 419, 420, 421, 422, 423, 424, 425, 426, 427, 446, 447, 448, 45, 449, 64, 66, 450, 451, 122, 123, 124, 2, 125, 26, 37, 30, 36, 126, 127, 128, 14, 129, 42, 46, 130, 131, 132, 133, 25, 134, 96, 97, 98, 99, 135, 136, 137, 138, 139, 140, 141, 29, 142, 103, 143, 105, 104, 144, 145, 146, 147, 148, 149, 150, 151, 152, 153, 154, 49, 155, 74, 76, 75, 77, 156, 157, 158, 159, 34, 160, 161, 162, 163, 164, 58, 165, 86, 87, 166, 167, 168, 169, 170, 171, 172, 173, 53, 174, 81, 175, 176, 177, 178, 82, 179, 180, 181, 182, 183, 184, 185, 186, 883, 884, 885, 886, 887, 888, 889, 919, 920, 921, 922, 923, 924, 925, 939, 940, 926, 927, 928, 929, 930, 931, 932, 933, 934, 941, 942, 943, 944, 947, 948, 945, 946] (by decide +kernel) (by decide +kernel)
set_option maxRecDepth 20000 in
theorem gL_law_X9_read : GoodIn wsL_law (wsV RL 61 RX9 yX9_read wsX9_read) := goodIn_app (goodIn_of _ (by decide +kernel)) ggL_law_X9_read
set_option maxRecDepth 20000 in
theorem ggL_law_X10_read : GoodIn wsL_law wsX10_read := goodIn_r _ [455, 387, 193, 200, 192, 228, 432, 433, 434, 5, 435, 436, 437, 438, 439, 261, 262, 263, 216, 217, 218, 219, 191, 207, 206, 220, 221, 222, 223, 224, 225, 226, 227, 229, 230, 231, 232, 233, 234, 235, 236, 237, 197, 198, 199, 238, 239, 240, 241, 242, 196, 243, 244, 245, 246, 210, 890, 891, 892, 893, 894, 895, 896, 897, 898, 899, 900, 901, 902, 903, 904, 905, 906, 907, 908, 909, 910, 911, 912, 913, 914, 915, 916, 917, 918] (by decide +kernel) (by decide +kernel)
set_option maxRecDepth 20000 in
theorem gL_law_X10_read : GoodIn wsL_law (wsV RL 64 RX10 yX10_read wsX10_read) := goodIn_app (goodIn_of _ (by decide +kernel)) ggL_law_X10_read
set_option maxRecDepth 20000 in
theorem ggL_law_X9_setRange : GoodIn wsL_law wsX9_setRange := goodIn_r _ [459, 26, 15, 36, 30, 302, 303, 304, 25, 305, 96, 460, 119, 120, 49, 121, 74, 75, 76, 77, 139, 140, 141, 29, 142, 103, 143, 105, 104, 144, 145, 146, 147, 98, 148, 149, 150, 151, 152, 153, 154, 155, 883, 884, 885, 886, 887, 888, 889, 919, 920, 921, 922, 923, 924, 925, 928, 929, 930, 931, 941, 942, 943, 944, 932, 933, 934] (by decide +kernel) (by decide +kernel)
set_option maxRecDepth 20000 in
theorem gL_law_X9_setRange : GoodIn wsL_law (wsV RL 65 RX9 yX9_setRange wsX9_setRange) := goodIn_app (goodIn_of _ (by decide +kernel)) ggL_law_X9_setRange
set_option maxRecDepth 20000 in
theorem ggL_law_X10_setRange : GoodIn wsL_law wsX10_setRange := goodIn_r _ [464, 259, 260, 194, 195, 264, 265, 266, 5, 267, 191, 261, 262, 263, 890, 891, 892, 893, 894, 895, 896, 897, 898, 899, 900, 901, 902, 903, 904, 905, 906, 907, 908, 909, 910, 911, 912, 913, 914, 915, 916, 917, 918] (by decide +kernel) (by decide +kernel)
set_option maxRecDepth 20000 in
theorem gL_law_X10_setRange : GoodIn wsL_law (wsV RL 69 RX10 yX10_setRange wsX10_setRange) := goodIn_app (goodIn_of _ (by decide +kernel)) ggL_law_X10_setRange
set_option maxRecDepth 20000 in
theorem ggL_law_X9_intervals : GoodIn wsL_law wsX9_intervals := goodIn_r _ [468, 30, 469, 883, 884, 885, 886, 887, 888, 889, 932, 933, 934] (by decide +kernel) (by decide +kernel)
set_option maxRecDepth 20000 in
theorem gL_law_X9_intervals : GoodIn wsL_law (wsV RL 70 RX9 yX9_intervals wsX9_intervals) := goodIn_app (goodIn_of _ (by decide +kernel)) ggL_law_X9_intervals
set_option maxRecDepth 20000 in
theorem ggL_law_X10_intervals : GoodIn wsL_law wsX10_intervals := goodIn_r _ [473, 474, 475, 476, 477, 5, 478, 208, 209, 220, 221, 222, 223, 191, 479, 480, 481, 482, 207, 259, 194, 260, 195, 261, 262, 263, 890, 891, 892, 893, 894, 895, 896, 897, 898, 899, 900, 901, 902, 903, 904, 905, 906, 907, 908, 909, 910, 911, 912, 913, 914, 915, 916, 917, 918] (by decide +kernel) (by decide +kernel)
set_option maxRecDepth 20000 in
theorem gL_law_X10_intervals : GoodIn wsL_law (wsV RL 73 RX10 yX10_intervals wsX10_intervals) := goodIn_app (goodIn_of _ (by decide +kernel)) ggL_law_X10_intervals
set_option maxRecDepth 20000 in
theorem ggL_law_X9_interval : GoodIn wsL_law wsX9_interval := goodIn_r _ [486, 30, 469, 487, 488, 883, 884, 885, 886, 887, 888, 889, 932, 933, 934] (by decide +kernel) (by decide +kernel)
set_option maxRecDepth 20000 in
theorem gL_law_X9_interval : GoodIn wsL_law (wsV RL 74 RX9 yX9_interval wsX9_interval) := goodIn_app (goodIn_of _ (by decide +kernel)) ggL_law_X9_interval
set_option maxRecDepth 20000 in
theorem ggL_law_X10_interval : GoodIn wsL_law wsX10_interval := goodIn_r _ [492, 474, 209, 208, 475, 476, 477, 5, 478, 220, 221, 222, 223, 191, 479, 480, 481, 482, 207, 259, 194, 260, 195, 261, 262, 263, 890, 891, 892, 893, 894, 895, 896, 897, 898, 899, 900, 901, 902, 903, 904, 905, 906, 907, 908, 909, 910, 911, 912, 913, 914, 915, 916, 917, 918] (by decide +kernel) (by decide +kernel)
set_option maxRecDepth 20000 in
theorem gL_law_X10_interval : GoodIn wsL_law (wsV RL 77 RX10 yX10_interval wsX10_interval) := goodIn_app (goodIn_of _ (by decide +kernel)) ggL_law_X10_interval
set_option maxRecDepth 20000 in
theorem ggL_law_X9_extra : GoodIn wsL_law wsX9_extra := goodIn_r _ [496, 30, 497, 498, 499, 29, 500, 103, 501, 502, 503, 504, 505, 363, 336, 364, 506, 507, 508, 509, 510, 511, 512, 513, 514, 515, 516, 517, 104, 105, 883, 884, 885, 886, 887, 888, 889, 932, 933, 934] (by decide +kernel) (by decide +kernel)
set_option maxRecDepth 20000 in
theorem gL_law_X9_extra : GoodIn wsL_law (wsV RL 78 RX9 yX9_extra wsX9_extra) := goodIn_app (goodIn_of _ (by decide +kernel)) ggL_law_X9_extra
set_option maxRecDepth 20000 in
theorem ggL_law_X10_extra : GoodIn wsL_law wsX10_extra := goodIn_r _ [521, 522, 523, 524, 5, 525, 474, 208, 209, 475, 476, 477, 478, 220, 221, 222, 223, 191, 479, 480, 481, 482, 207, 259, 194, 260, 195, 261, 262, 263, 890, 891, 892, 893, 894, 895, 896, 897, 898, 899, 900, 901, 902, 903, 904, 905, 906, 907, 908, 909, 910, 911, 912, 913, 914, 915, 916, 917, 918] (by decide +kernel) (by decide +kernel)
set_option maxRecDepth 20000 in
theorem gL_law_X10_extra : GoodIn wsL_law (wsV RL 81 RX10 yX10_extra wsX10_extra) := goodIn_app (goodIn_of _ (by decide +kernel)) ggL_law_X10_extra
set_option maxRecDepth 20000 in
theorem ggL_law_X9_covering : GoodIn wsL_law wsX9_covering := goodIn_r _ [529, 30, 469, 530, 531, 336, 532, 533, 534, 535, 29, 536, 103, 105, 104, 501, 502, 503, 504, 505, 363, 364, 506, 507, 508, 509, 510, 511, 512, 513, 514, 515, 516, 517, 883, 884, 885, 886, 887, 888, 889, 932, 933, 934] (by decide +kernel) (by decide +kernel)
set_option maxRecDepth 20000 in
theorem gL_law_X9_covering : GoodIn wsL_law (wsV RL 82 RX9 yX9_covering wsX9_covering) := goodIn_app (goodIn_of _ (by decide +kernel)) ggL_law_X9_covering
set_option maxRecDepth 20000 in
theorem ggL_law_X10_covering : GoodIn wsL_law wsX10_covering := goodIn_r _ [540, 474, 209, 208, 522, 523, 524, 5, 525, 475, 476, 477, 478, 220, 221, 222, 223, 191, 479, 480, 481, 482, 207, 259, 194, 260, 195, 261, 262, 263, 890, 891, 892, 893, 894, 895, 896, 897, 898, 899, 900, 901, 902, 903, 904, 905, 906, 907, 908, 909, 910, 911, 912, 913, 914, 915, 916, 917, 918] (by decide +kernel) (by decide +kernel)
set_option maxRecDepth 20000 in
theorem gL_law_X10_covering : GoodIn wsL_law (wsV RL 86 RX10 yX10_covering wsX10_covering) := goodIn_app (goodIn_of _ (by decide +kernel)) ggL_law_X10_covering
set_option maxRecDepth 20000 in
theorem ggL_law_X9_clusters : GoodIn wsL_law wsX9_clusters := goodIn_r _ [544, 26, 545, 546, 547, 548, 25, 549, 97, 550, 551, 552, 553, 338, 145, 146, 147, 98, 554, 555, 556, 557, 362, 363, 336, 364, 96, 558, 531, 532, 339, 149, 150, 151, 883, 884, 885, 886, 887, 888, 889, 928, 929, 930, 931] (by decide +kernel) (by decide +kernel)
set_option maxRecDepth 20000 in
theorem gL_law_X9_clusters : GoodIn wsL_law (wsV RL 87 RX9 yX9_clusters wsX9_clusters) := goodIn_app (goodIn_of _ (by decide +kernel)) ggL_law_X9_clusters
set_option maxRecDepth 20000 in
theorem ggL_law_X10_clusters : GoodIn wsL_law wsX10_clusters := goodIn_r _ [562, 207, 264, 265, 266, 5, 267, 191, 261, 262, 263, 220, 221, 222, 223, 563, 564, 565, 566, 890, 891, 892, 893, 894, 895, 896, 897, 898, 899, 900, 901, 902, 903, 904, 905, 906, 907, 908, 909, 910, 911, 912, 913, 914, 915, 916, 917, 918] (by decide +kernel) (by decide +kernel)
set_option maxRecDepth 20000 in
theorem gL_law_X10_clusters : GoodIn wsL_law (wsV RL 90 RX10 yX10_clusters wsX10_clusters) := goodIn_app (goodIn_of _ (by decide +kernel)) ggL_law_X10_clusters
set_option maxRecDepth 20000 in
theorem ggL_law_X9_addPoint : GoodIn wsL_law wsX9_addPoint := goodIn_r _ [570, 26, 15, 160, 571, 302, 303, 304, 25, 305, 96, 572, 573, 574, 53, 575, 81, 82, 576, 577, 578, 579, 156, 157, 158, 2, 159, 34, 161, 162, 163, 164, 58, 165, 86, 87, 166, 167, 168, 169, 170, 171, 172, 173, 174, 175, 176, 177, 178, 179, 180, 181, 182, 99, 183, 184, 185, 186, 883, 884, 885, 886, 887, 888, 889, 919, 920, 921, 922, 923, 924, 925, 945, 946, 928, 929, 930, 931, 947, 948] (by decide +kernel) (by decide +kernel)
set_option maxRecDepth 20000 in
theorem gL_law_X9_addPoint : GoodIn wsL_law (wsV RL 91 RX9 yX9_addPoint wsX9_addPoint) := goodIn_app (goodIn_of _ (by decide +kernel)) ggL_law_X9_addPoint
set_option maxRecDepth 20000 in
theorem ggL_law_X10_addPoint : GoodIn wsL_law wsX10_addPoint := goodIn_r _ [583, 242, 196, 311, 312, 313, 5, 314, 264, 265, 266, 267, 191, 261, 262, 263, 584, 585, 586, 587, 233, 234, 235, 236, 237, 197, 198, 199, 220, 221, 222, 223, 238, 239, 240, 241, 206, 243, 244, 245, 246, 210, 890, 891, 892, 893, 894, 895, 896, 897, 898, 899, 900, 901, 902, 903, 904, 905, 906, 907, 908, 909, 910, 911, 912, 913, 914, 915, 916, 917, 918] (by decide +kernel) (by decide +kernel)
set_option maxRecDepth 20000 in
theorem gL_law_X10_addPoint : GoodIn wsL_law (wsV RL 94 RX10 yX10_addPoint wsX10_addPoint) := goodIn_app (goodIn_of _ (by decide +kernel)) ggL_law_X10_addPoint
set_option maxRecDepth 20000 in
theorem ggL_law_X9_removePoint : GoodIn wsL_law wsX9_removePoint := goodIn_r _ [591, 26, 15, 160, 571, 302, 303, 304, 25, 305, 96, 592, 593, 594, 53, 595, 81, 82, 596, 573, 574, 575, 156, 157, 158, 2, 159, 34, 161, 162, 163, 164, 58, 165, 86, 87, 166, 167, 168, 169, 170, 171, 172, 173, 174, 175, 176, 177, 178, 179, 180, 181, 182, 99, 183, 184, 185, 186, 883, 884, 885, 886, 887, 888, 889, 919, 920, 921, 922, 923, 924, 925, 945, 946, 928, 929, 930, 931, 947, 948] (by decide +kernel) (by decide +kernel)
set_option maxRecDepth 20000 in
theorem gL_law_X9_removePoint : GoodIn wsL_law (wsV RL 95 RX9 yX9_removePoint wsX9_removePoint) := goodIn_app (goodIn_of _ (by decide +kernel)) ggL_law_X9_removePoint
set_option maxRecDepth 20000 in
theorem ggL_law_X10_removePoint : GoodIn wsL_law wsX10_removePoint := goodIn_r _ [600, 242, 196, 311, 312, 313, 5, 314, 264, 265, 266, 267, 191, 261, 262, 263, 584, 585, 586, 587, 233, 234, 235, 236, 237, 197, 198, 199, 220, 221, 222, 223, 238, 239, 240, 241, 206, 243, 244, 245, 246, 210, 890, 891, 892, 893, 894, 895, 896, 897, 898, 899, 900, 901, 902, 903, 904, 905, 906, 907, 908, 909, 910, 911, 912, 913, 914, 915, 916, 917, 918] (by decide +kernel) (by decide +kernel)
set_option maxRecDepth 20000 in
theorem gL_law_X10_removePoint : GoodIn wsL_law (wsV RL 98 RX10 yX10_removePoint wsX10_removePoint) := goodIn_app (goodIn_of _ (by decide +kernel)) ggL_law_X10_removePoint
set_option maxRecDepth 20000 in
theorem ggL_law_X9_points : GoodIn wsL_law wsX9_points := goodIn_r _ [604, 15, 160, 571, 883, 884, 885, 886, 887, 888, 889, 919, 920, 921, 922, 923, 924, 925, 945, 946] (by decide +kernel) (by decide +kernel)
set_option maxRecDepth 20000 in
theorem gL_law_X9_points : GoodIn wsL_law (wsV RL 99 RX9 yX9_points wsX9_points) := goodIn_app (goodIn_of _ (by decide +kernel)) ggL_law_X9_points
set_option maxRecDepth 20000 in
theorem ggL_law_X10_points : GoodIn wsL_law wsX10_points := goodIn_r _ [608, 242, 890, 891, 892, 893, 894, 895, 896, 897, 898, 899, 900, 901, 902, 903, 904, 905, 906, 907, 908, 909, 910, 911, 912, 913, 914, 915, 916, 917, 918] (by decide +kernel) (by decide +kernel)
set_option maxRecDepth 20000 in
theorem gL_law_X10_points : GoodIn wsL_law (wsV RL 102 RX10 yX10_points wsX10_points) := goodIn_app (goodIn_of _ (by decide +kernel)) ggL_law_X10_points
set_option maxRecDepth 20000 in
theorem ggL_law_X9_nearest : GoodIn wsL_law wsX9_nearest := goodIn_r _ [612, 26, 15, 160, 302, 303, 304, 25, 305, 96, 306, 180, 181, 182, 99, 613, 614, 615, 53, 616, 81, 617, 335, 336, 337, 175, 176, 177, 178, 82, 179, 883, 884, 885, 886, 887, 888, 889, 919, 920, 921, 922, 923, 924, 925, 928, 929, 930, 931, 945, 946] (by decide +kernel) (by decide +kernel)
set_option maxRecDepth 20000 in
theorem gL_law_X9_nearest : GoodIn wsL_law (wsV RL 103 RX9 yX9_nearest wsX9_nearest) := goodIn_app (goodIn_of _ (by decide +kernel)) ggL_law_X9_nearest
set_option maxRecDepth 20000 in
theorem ggL_law_X10_nearest : GoodIn wsL_law wsX10_nearest := goodIn_r _ [621, 206, 242, 196, 311, 312, 313, 5, 314, 264, 265, 266, 267, 191, 261, 262, 263, 351, 352, 353, 890, 891, 892, 893, 894, 895, 896, 897, 898, 899, 900, 901, 902, 903, 904, 905, 906, 907, 908, 909, 910, 911, 912, 913, 914, 915, 916, 917, 918] (by decide +kernel) (by decide +kernel)
set_option maxRecDepth 20000 in
theorem gL_law_X10_nearest : GoodIn wsL_law (wsV RL 106 RX10 yX10_nearest wsX10_nearest) := goodIn_app (goodIn_of _ (by decide +kernel)) ggL_law_X10_nearest
set_option maxRecDepth 20000 in
theorem ggL_law_X9_setBucket : GoodIn wsL_law wsX9_setBucket := goodIn_r _ [625, 15, 161, 156, 157, 158, 2, 159, 34, 26, 160, 162, 163, 164, 58, 165, 86, 87, 166, 167, 168, 169, 170, 171, 172, 173, 53, 174, 81, 175, 176, 177, 178, 82, 179, 180, 181, 25, 182, 99, 183, 184, 185, 186, 883, 884, 885, 886, 887, 888, 889, 919, 920, 921, 922, 923, 924, 925, 947, 948, 928, 929, 930, 931, 945, 946] (by decide +kernel) (by decide +kernel)
set_option maxRecDepth 20000 in
theorem gL_law_X9_setBucket : GoodIn wsL_law (wsV RL 107 RX9 yX9_setBucket wsX9_setBucket) := goodIn_app (goodIn_of _ (by decide +kernel)) ggL_law_X9_setBucket
set_option maxRecDepth 20000 in
theorem ggL_law_X10_setBucket : GoodIn wsL_law wsX10_setBucket := goodIn_r _ [629, 197, 261, 262, 5, 263, 233, 234, 235, 236, 237, 191, 198, 199, 220, 221, 222, 223, 238, 239, 240, 241, 242, 206, 196, 243, 244, 245, 246, 210, 890, 891, 892, 893, 894, 895, 896, 897, 898, 899, 900, 901, 902, 903, 904, 905, 906, 907, 908, 909, 910, 911, 912, 913, 914, 915, 916, 917, 918] (by decide +kernel) (by decide +kernel)
set_option maxRecDepth 20000 in
theorem gL_law_X10_setBucket : GoodIn wsL_law (wsV RL 110 RX10 yX10_setBucket wsX10_setBucket) := goodIn_app (goodIn_of _ (by decide +kernel)) ggL_law_X10_setBucket
set_option maxRecDepth 20000 in
theorem ggL_law_X9_leaves : GoodIn wsL_law wsX9_leaves := goodIn_r _ [633, 15, 34, 634, 883, 884, 885, 886, 887, 888, 889, 919, 920, 921, 922, 923, 924, 925, 947, 948] (by decide +kernel) (by decide +kernel)
set_option maxRecDepth 20000 in
theorem gL_law_X9_leaves : GoodIn wsL_law (wsV RL 111 RX9 yX9_leaves wsX9_leaves) := goodIn_app (goodIn_of _ (by decide +kernel)) ggL_law_X9_leaves
set_option maxRecDepth 20000 in
theorem ggL_law_X10_leaves : GoodIn wsL_law wsX10_leaves := goodIn_r _ [638, 237, 890, 891, 892, 893, 894, 895, 896, 897, 898, 899, 900, 901, 902, 903, 904, 905, 906, 907, 908, 909, 910, 911, 912, 913, 914, 915, 916, 917, 918] (by decide +kernel) (by decide +kernel)
set_option maxRecDepth 20000 in
theorem gL_law_X10_leaves : GoodIn wsL_law (wsV RL 114 RX10 yX10_leaves wsX10_leaves) := goodIn_app (goodIn_of _ (by decide +kernel)) ggL_law_X10_leaves
set_option maxRecDepth 20000 in
theorem ggL_law_X9_leaf : GoodIn wsL_law wsX9_leaf := goodIn_r _ [642, 35, 15, 34, 26, 160, 643, 644, 645, 646, 2, 647, 634, 648, 649, 650, 33, 651, 112, 113, 652, 653, 145, 146, 25, 147, 98, 654, 655, 656, 58, 657, 87, 658, 659, 660, 661, 662, 149, 150, 151, 663, 664, 168, 169, 170, 171, 172, 173, 53, 174, 81, 175, 176, 177, 178, 82, 179, 180, 181, 182, 99, 883, 884, 885, 886, 887, 888, 889, 919, 920, 921, 922, 923, 924, 925, 947, 948, 935, 936, 937, 938, 928, 929, 930, 931, 945, 946] (by decide +kernel) (by decide +kernel)
set_option maxRecDepth 20000 in
theorem gL_law_X9_leaf : GoodIn wsL_law (wsV RL 115 RX9 yX9_leaf wsX9_leaf) := goodIn_app (goodIn_of _ (by decide +kernel)) ggL_law_X9_leaf
set_option maxRecDepth 20000 in
theorem ggL_law_X10_leaf : GoodIn wsL_law wsX10_leaf := goodIn_r _ [668, 669, 670, 671, 5, 672, 237, 261, 262, 263, 673, 674, 675, 676, 199, 198, 677, 678, 679, 680, 207, 681, 682, 683, 684, 238, 239, 240, 241, 242, 206, 196, 890, 891, 892, 893, 894, 895, 896, 897, 898, 899, 900, 901, 902, 903, 904, 905, 906, 907, 908, 909, 910, 911, 912, 913, 914, 915, 916, 917, 918] (by decide +kernel) (by decide +kernel)
set_option maxRecDepth 20000 in
theorem gL_law_X10_leaf : GoodIn wsL_law (wsV RL 118 RX10 yX10_leaf wsX10_leaf) := goodIn_app (goodIn_of _ (by decide +kernel)) ggL_law_X10_leaf
set_option maxRecDepth 20000 in
theorem ggL_law_X9_leafAt : GoodIn wsL_law wsX9_leafAt := goodIn_r _ [688, 26, 15, 34, 302, 303, 304, 25, 305, 96, 306, 180, 181, 182, 99, 689, 690, 691, 58, 692, 86, 87, 883, 884, 885, 886, 887, 888, 889, 919, 920, 921, 922, 923, 924, 925, 928, 929, 930, 931, 947, 948] (by decide +kernel) (by decide +kernel)
set_option maxRecDepth 20000 in
theorem gL_law_X9_leafAt : GoodIn wsL_law (wsV RL 119 RX9 yX9_leafAt wsX9_leafAt) := goodIn_app (goodIn_of _ (by decide +kernel)) ggL_law_X9_leafAt
set_option maxRecDepth 20000 in
theorem ggL_law_X10_leafAt : GoodIn wsL_law wsX10_leafAt := goodIn_r _ [696, 210, 206, 311, 312, 313, 5, 314, 264, 265, 266, 267, 191, 261, 262, 263, 890, 891, 892, 893, 894, 895, 896, 897, 898, 899, 900, 901, 902, 903, 904, 905, 906, 907, 908, 909, 910, 911, 912, 913, 914, 915, 916, 917, 918] (by decide +kernel) (by decide +kernel)
set_option maxRecDepth 20000 in
theorem gL_law_X10_leafAt : GoodIn wsL_law (wsV RL 122 RX10 yX10_leafAt wsX10_leafAt) := goodIn_app (goodIn_of _ (by decide +kernel)) ggL_law_X10_leafAt
set_option maxRecDepth 20000 in
theorem ggL_law_X9_neighbours : GoodIn wsL_law wsX9_neighbours := goodIn_r _ [700, 35, 701, 644, 645, 646, 2, 647, 15, 34, 634, 702, 703, 704, 705, 706, 707, 33, 708, 113, 110, 112, 709, 363, 336, 364, 654, 655, 656, 58, 657, 87, 710, 649, 650, 651, 652, 653, 145, 146, 25, 147, 98, 711, 712, 713, 714, 659, 660, 661, 662, 149, 150, 151, 715, 303, 304, 305, 96, 716, 180, 181, 182, 99, 717, 690, 691, 692, 86, 718, 719, 720, 721, 111, 883, 884, 885, 886, 887, 888, 889, 935, 936, 937, 938, 919, 920, 921, 922, 923, 924, 925, 947, 948, 928, 929, 930, 931] (by decide +kernel) (by decide +kernel)
set_option maxRecDepth 20000 in
theorem gL_law_X9_neighbours : GoodIn wsL_law (wsV RL 123 RX9 yX9_neighbours wsX9_neighbours) := goodIn_app (goodIn_of _ (by decide +kernel)) ggL_law_X9_neighbours
set_option maxRecDepth 20000 in
theorem ggL_law_X10_neighbours : GoodIn wsL_law wsX10_neighbours := goodIn_r _ [725, 726, 669, 670, 671, 5, 672, 237, 261, 262, 263, 727, 728, 729, 730, 199, 210, 206, 677, 678, 679, 680, 207, 198, 681, 682, 683, 684, 311, 312, 313, 314, 264, 265, 266, 267, 191, 731, 732, 733, 734, 211, 890, 891, 892, 893, 894, 895, 896, 897, 898, 899, 900, 901, 902, 903, 904, 905, 906, 907, 908, 909, 910, 911, 912, 913, 914, 915, 916, 917, 918] (by decide +kernel) (by decide +kernel)
set_option maxRecDepth 20000 in
theorem gL_law_X10_neighbours : GoodIn wsL_law (wsV RL 126 RX10 yX10_neighbours wsX10_neighbours) := goodIn_app (goodIn_of _ (by decide +kernel)) ggL_law_X10_neighbours
set_option maxRecDepth 20000 in
theorem ggL_law_X9_neighbour : GoodIn wsL_law wsX9_neighbour := goodIn_r _ [738, 35, 701, 739, 644, 645, 646, 2, 647, 15, 34, 634, 702, 703, 704, 705, 706, 707, 33, 708, 113, 110, 112, 709, 363, 336, 364, 654, 655, 656, 58, 657, 87, 710, 649, 650, 651, 652, 653, 145, 146, 25, 147, 98, 711, 712, 713, 714, 659, 660, 661, 662, 149, 150, 151, 715, 303, 304, 305, 96, 716, 180, 181, 182, 99, 717, 690, 691, 692, 86, 718, 719, 720, 721, 111, 883, 884, 885, 886, 887, 888, 889, 935, 936, 937, 938, 919, 920, 921, 922, 923, 924, 925, 947, 948, 928, 929, 930, 931] (by decide +kernel) (by decide +kernel)
set_option maxRecDepth 20000 in
theorem gL_law_X9_neighbour : GoodIn wsL_law (wsV RL 127 RX9 yX9_neighbour wsX9_neighbour) := goodIn_app (goodIn_of _ (by decide +kernel)) ggL_law_X9_neighbour
set_option maxRecDepth 20000 in
theorem ggL_law_X10_neighbour : GoodIn wsL_law wsX10_neighbour := goodIn_r _ [743, 726, 211, 669, 670, 671, 5, 672, 237, 261, 262, 263, 727, 728, 729, 730, 199, 210, 206, 677, 678, 679, 680, 207, 198, 681, 682, 683, 684, 311, 312, 313, 314, 264, 265, 266, 267, 191, 731, 732, 733, 734, 890, 891, 892, 893, 894, 895, 896, 897, 898, 899, 900, 901, 902, 903, 904, 905, 906, 907, 908, 909, 910, 911, 912, 913, 914, 915, 916, 917, 918] (by decide +kernel) (by decide +kernel)
set_option maxRecDepth 20000 in
theorem gL_law_X10_neighbour : GoodIn wsL_law (wsV RL 131 RX10 yX10_neighbour wsX10_neighbour) := goodIn_app (goodIn_of _ (by decide +kernel)) ggL_law_X10_neighbour
set_option maxRecDepth 20000 in
theorem ggL_law_X9_balance : GoodIn wsL_law wsX9_balance := goodIn_r _ [747, 35, 748, 749, 750, 33, 751, 752, 113, 753, 754, 755, 756, 757, 110, 111, 758, 706, 707, 708, 112, 709, 363, 336, 364, 654, 655, 656, 58, 657, 87, 710, 649, 650, 651, 652, 653, 145, 146, 25, 147, 98, 711, 712, 713, 714, 659, 660, 661, 662, 149, 150, 151, 715, 303, 304, 305, 96, 716, 180, 181, 182, 99, 717, 690, 691, 692, 86, 718, 719, 720, 721, 759, 760, 761, 762, 763, 531, 532, 764, 765, 766, 767, 768, 184, 185, 186, 883, 884, 885, 886, 887, 888, 889, 935, 936, 937, 938, 947, 948, 928, 929, 930, 931] (by decide +kernel) (by decide +kernel)
set_option maxRecDepth 20000 in
theorem gL_law_X9_balance : GoodIn wsL_law (wsV RL 132 RX9 yX9_balance wsX9_balance) := goodIn_app (goodIn_of _ (by decide +kernel)) ggL_law_X9_balance
set_option maxRecDepth 20000 in
theorem ggL_law_X10_balance : GoodIn wsL_law wsX10_balance := goodIn_r _ [772, 237, 773, 774, 775, 5, 776, 199, 726, 211, 727, 728, 729, 730, 210, 206, 677, 678, 679, 680, 207, 198, 681, 682, 683, 684, 311, 312, 313, 314, 264, 265, 266, 267, 191, 261, 262, 263, 731, 732, 733, 734, 777, 778, 779, 780, 243, 244, 245, 246, 890, 891, 892, 893, 894, 895, 896, 897, 898, 899, 900, 901, 902, 903, 904, 905, 906, 907, 908, 909, 910, 911, 912, 913, 914, 915, 916, 917, 918] (by decide +kernel) (by decide +kernel)
set_option maxRecDepth 20000 in
theorem gL_law_X10_balance : GoodIn wsL_law (wsV RL 135 RX10 yX10_balance wsX10_balance) := goodIn_app (goodIn_of _ (by decide +kernel)) ggL_law_X10_balance
set_option maxRecDepth 20000 in
theorem ggL_law_X9_walk : GoodIn wsL_law wsX9_walk := goodIn_r _ [784, 35, 644, 645, 646, 2, 647, 15, 34, 634, 702, 703, 704, 785, 786, 787, 33, 788, 764, 765, 766, 767, 110, 111, 758, 706, 707, 708, 113, 112, 709, 363, 336, 364, 654, 655, 656, 58, 657, 87, 710, 649, 650, 651, 652, 653, 145, 146, 25, 147, 98, 711, 712, 713, 714, 659, 660, 661, 662, 149, 150, 151, 715, 303, 304, 305, 96, 716, 180, 181, 182, 99, 717, 690, 691, 692, 86, 718, 719, 720, 721, 883, 884, 885, 886, 887, 888, 889, 919, 920, 921, 922, 923, 924, 925, 947, 948, 935, 936, 937, 938, 928, 929, 930, 931] (by decide +kernel) (by decide +kernel)
set_option maxRecDepth 20000 in
theorem gL_law_X9_walk : GoodIn wsL_law (wsV RL 136 RX9 yX9_walk wsX9_walk) := goodIn_app (goodIn_of _ (by decide +kernel)) ggL_law_X9_walk
set_option maxRecDepth 20000 in
theorem ggL_law_X10_walk : GoodIn wsL_law wsX10_walk := goodIn_r _ [792, 726, 211, 669, 670, 671, 5, 672, 237, 261, 262, 263, 727, 728, 729, 730, 199, 210, 206, 677, 678, 679, 680, 207, 198, 681, 682, 683, 684, 311, 312, 313, 314, 264, 265, 266, 267, 191, 731, 732, 733, 734, 890, 891, 892, 893, 894, 895, 896, 897, 898, 899, 900, 901, 902, 903, 904, 905, 906, 907, 908, 909, 910, 911, 912, 913, 914, 915, 916, 917, 918] (by decide +kernel) (by decide +kernel)
set_option maxRecDepth 20000 in
theorem gL_law_X10_walk : GoodIn wsL_law (wsV RL 139 RX10 yX10_walk wsX10_walk) := goodIn_app (goodIn_of _ (by decide +kernel)) ggL_law_X10_walk
set_option maxRecDepth 20000 in
theorem ggL_law_X9_walked : GoodIn wsL_law wsX9_walked := goodIn_r _ [796, 35, 644, 645, 646, 2, 647, 15, 34, 634, 702, 703, 704, 797, 798, 799, 33, 800, 763, 531, 336, 532, 764, 765, 766, 767, 110, 111, 758, 706, 707, 708, 113, 112, 709, 363, 364, 654, 655, 656, 58, 657, 87, 710, 649, 650, 651, 652, 653, 145, 146, 25, 147, 98, 711, 712, 713, 714, 659, 660, 661, 662, 149, 150, 151, 715, 303, 304, 305, 96, 716, 180, 181, 182, 99, 717, 690, 691, 692, 86, 718, 719, 720, 721, 883, 884, 885, 886, 887, 888, 889, 919, 920, 921, 922, 923, 924, 925, 947, 948, 935, 936, 937, 938, 928, 929, 930, 931] (by decide +kernel) (by decide +kernel)
set_option maxRecDepth 20000 in
theorem gL_law_X9_walked : GoodIn wsL_law (wsV RL 140 RX9 yX9_walked wsX9_walked) := goodIn_app (goodIn_of _ (by decide +kernel)) ggL_law_X9_walked
set_option maxRecDepth 20000 in
theorem ggL_law_X10_walked : GoodIn wsL_law wsX10_walked := goodIn_r _ [804, 726, 211, 669, 670, 671, 5, 672, 237, 261, 262, 263, 727, 728, 729, 730, 199, 210, 206, 677, 678, 679, 680, 207, 198, 681, 682, 683, 684, 311, 312, 313, 314, 264, 265, 266, 267, 191, 731, 732, 733, 734, 890, 891, 892, 893, 894, 895, 896, 897, 898, 899, 900, 901, 902, 903, 904, 905, 906, 907, 908, 909, 910, 911, 912, 913, 914, 915, 916, 917, 918] (by decide +kernel) (by decide +kernel)
set_option maxRecDepth 20000 in
theorem gL_law_X10_walked : GoodIn wsL_law (wsV RL 143 RX10 yX10_walked wsX10_walked) := goodIn_app (goodIn_of _ (by decide +kernel)) ggL_law_X10_walked
set_option maxRecDepth 20000 in
theorem ggL_law_X9_save : GoodIn wsL_law wsX9_save := goodIn_r _ [808, 16, 15, 18, 34, 634, 809, 810, 811, 14, 812, 41, 42, 46, 50, 813, 814, 815, 816, 54, 55, 59, 817, 818, 819, 45, 820, 64, 66, 67, 68, 69, 70, 821, 119, 120, 49, 121, 74, 75, 76, 77, 822, 823, 824, 53, 825, 81, 82, 826, 827, 828, 829, 58, 830, 86, 87, 831, 883, 884, 885, 886, 887, 888, 889, 919, 920, 921, 922, 923, 924, 925, 947, 948, 941, 942, 943, 944, 939, 940, 945, 946] (by decide +kernel) (by decide +kernel)
set_option maxRecDepth 20000 in
theorem gL_law_X9_save : GoodIn wsL_law (wsV RL 144 RX9 yX9_save wsX9_save) := goodIn_app (goodIn_of _ (by decide +kernel)) ggL_law_X9_save
set_option maxRecDepth 20000 in
theorem ggL_law_X10_save : GoodIn wsL_law wsX10_save := goodIn_r _ [835, 201, 191, 228, 192, 259, 260, 194, 195, 242, 197, 237, 196, 202, 193, 203, 198, 204, 199, 205, 261, 262, 5, 263, 890, 891, 892, 893, 894, 895, 896, 897, 898, 899, 900, 901, 902, 903, 904, 905, 906, 907, 908, 909, 910, 911, 912, 913, 914, 915, 916, 917, 918] (by decide +kernel) (by decide +kernel)
set_option maxRecDepth 20000 in
theorem gL_law_X10_save : GoodIn wsL_law (wsV RL 147 RX10 yX10_save wsX10_save) := goodIn_app (goodIn_of _ (by decide +kernel)) ggL_law_X10_save
set_option maxRecDepth 20000 in
theorem ggL_law_X9_restore : GoodIn wsL_law wsX9_restore := goodIn_r _ [839, 18, 15, 16, 34, 634, 809, 810, 811, 14, 812, 41, 42, 46, 50, 813, 814, 815, 816, 54, 55, 59, 817, 818, 819, 45, 820, 64, 66, 67, 68, 69, 70, 821, 119, 120, 49, 121, 74, 75, 76, 77, 822, 823, 824, 53, 825, 81, 82, 826, 827, 828, 829, 58, 830, 86, 87, 831, 122, 123, 124, 2, 125, 26, 37, 30, 36, 126, 127, 128, 129, 130, 131, 132, 133, 25, 134, 96, 97, 98, 99, 135, 136, 137, 138, 139, 140, 141, 29, 142, 103, 143, 105, 104, 144, 145, 146, 147, 148, 149, 150, 151, 152, 153, 154, 155, 883, 884, 885, 886, 887, 888, 889, 919, 920, 921, 922, 923, 924, 925, 947, 948, 941, 942, 943, 944, 939, 940, 945, 946, 928, 929, 930, 931, 932, 933, 934] (by decide +kernel) (by decide +kernel)
set_option maxRecDepth 20000 in
theorem gL_law_X9_restore : GoodIn wsL_law (wsV RL 148 RX9 yX9_restore wsX9_restore) := goodIn_app (goodIn_of _ (by decide +kernel)) ggL_law_X9_restore
set_option maxRecDepth 20000 in
theorem ggL_law_X10_restore : GoodIn wsL_law wsX10_restore := goodIn_r _ [843, 205, 201, 191, 228, 192, 259, 260, 194, 195, 242, 197, 196, 193, 202, 237, 198, 203, 199, 204, 261, 262, 5, 263, 216, 217, 218, 219, 207, 206, 220, 221, 222, 223, 224, 225, 226, 227, 229, 230, 231, 232, 233, 234, 235, 236, 238, 239, 240, 241, 243, 244, 245, 246, 210, 890, 891, 892, 893, 894, 895, 896, 897, 898, 899, 900, 901, 902, 903, 904, 905, 906, 907, 908, 909, 910, 911, 912, 913, 914, 915, 916, 917, 918] (by decide +kernel) (by decide +kernel)
set_option maxRecDepth 20000 in
theorem gL_law_X10_restore : GoodIn wsL_law (wsV RL 151 RX10 yX10_restore wsX10_restore) := goodIn_app (goodIn_of _ (by decide +kernel)) ggL_law_X10_restore
set_option maxRecDepth 20000 in
theorem ggL_law_X9_checksum : GoodIn wsL_law wsX9_checksum := goodIn_r _ [847, 848, 849, 850, 851, 2, 852, 15, 37, 853, 854, 855, 856, 857, 278, 279, 280, 281, 282, 283, 14, 284, 42, 46, 285, 858, 291, 292, 293, 126, 127, 128, 129, 130, 859, 327, 328, 329, 26, 330, 331, 332, 25, 333, 97, 334, 335, 336, 337, 338, 145, 146, 147, 98, 339, 149, 150, 151, 860, 355, 356, 357, 358, 359, 360, 361, 96, 362, 363, 364, 365, 180, 181, 182, 99, 861, 862, 863, 864, 865, 466, 467, 468, 30, 469, 866, 484, 485, 486, 487, 488, 867, 868, 869, 870, 161, 871, 602, 603, 604, 160, 571, 872, 631, 632, 633, 34, 634, 873, 640, 641, 642, 35, 643, 644, 645, 646, 647, 648, 649, 650, 33, 651, 112, 113, 652, 653, 654, 655, 656, 58, 657, 87, 658, 659, 660, 661, 662, 663, 664, 168, 169, 170, 171, 172, 173, 53, 174, 81, 175, 176, 177, 178, 82, 179, 883, 884, 885, 886, 887, 888, 889, 919, 920, 921, 922, 923, 924, 925, 939, 940, 928, 929, 930, 931, 932, 933, 934, 945, 946, 947, 948, 935, 936, 937, 938] (by decide +kernel) (by decide +kernel)
set_option maxRecDepth 20000 in
theorem gL_law_X9_checksum : GoodIn wsL_law (wsV RL 152 RX9 yX9_checksum wsX9_checksum) := goodIn_app (goodIn_of _ (by decide +kernel)) ggL_law_X9_checksum
set_option maxRecDepth 20000 in
theorem ggL_law_X10_checksum : GoodIn wsL_law wsX10_checksum := goodIn_r _ [877, 878, 191, 192, 228, 474, 208, 209, 242, 197, 237, 879, 880, 5, 881, 882, 224, 225, 226, 227, 193, 229, 230, 231, 232, 344, 345, 346, 347, 207, 220, 221, 222, 223, 348, 349, 350, 351, 352, 353, 370, 371, 372, 373, 206, 264, 265, 266, 267, 475, 476, 477, 478, 479, 480, 481, 482, 259, 194, 260, 195, 261, 262, 263, 673, 674, 675, 676, 199, 198, 677, 678, 679, 680, 681, 682, 683, 684, 238, 239, 240, 241, 196, 890, 891, 892, 893, 894, 895, 896, 897, 898, 899, 900, 901, 902, 903, 904, 905, 906, 907, 908, 909, 910, 911, 912, 913, 914, 915, 916, 917, 918] (by decide +kernel) (by decide +kernel)
set_option maxRecDepth 20000 in
theorem gL_law_X10_checksum : GoodIn wsL_law (wsV RL 156 RX10 yX10_checksum wsX10_checksum) := goodIn_app (goodIn_of _ (by decide +kernel)) ggL_law_X10_checksum
