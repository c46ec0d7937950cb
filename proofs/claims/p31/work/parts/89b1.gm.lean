set_option maxRecDepth 20000 in
theorem ggL_digest_X9_count : GoodIn wsL_digest wsX9_count := goodIn_r _ [7, 8, 9, 10, 11, 12, 13, 14, 15, 16, 17, 18, 19, 20, 21, 22, 23, 24, 25, 26, 27, 28, 29, 30, 31, 32, 33, 34, 35, 36, 37, 38, 39, 40, 41, 42, 43, 44, 45, 46, 47, 48, 6, 49, 50, 51, 52, 53, 54, 55, 56, 57, 58, 59, 291, 292, 293, 294, 295, 296, 297, 298, 299, 300, 301, 302, 303, 304, 305, 306, 307, 308, 309, 310, 311, 312, 313, 314, 315, 316, 317, 318, 319, 320, 321, 322, 323, 324, 325, 326, 327, 328, 329, 330, 331, 332, 333, 334, 335, 336, 337, 338, 339, 340] (by decide +kernel) (by decide +kernel)
set_option maxRecDepth 20000 in
theorem gL_digest_X9_count : GoodIn wsL_digest (wsV RL 13 RX9 yX9_count wsX9_count) := goodIn_app (goodIn_of _ (by decide +kernel)) ggL_digest_X9_count
set_option maxRecDepth 20000 in
theorem ggL_digest_X9_water : GoodIn wsL_digest wsX9_water := goodIn_r _ [63, 8, 15, 64, 65, 66, 67, 68, 69, 70, 291, 292, 293, 294, 295, 296, 297, 298, 299, 300, 301, 302, 303, 304, 305, 306, 307, 308, 309, 310, 311, 312, 313] (by decide +kernel) (by decide +kernel)
set_option maxRecDepth 20000 in
theorem gL_digest_X9_water : GoodIn wsL_digest (wsV RL 19 RX9 yX9_water wsX9_water) := goodIn_app (goodIn_of _ (by decide +kernel)) ggL_digest_X9_water
set_option maxRecDepth 20000 in
theorem ggL_digest_X9_section : GoodIn wsL_digest wsX9_section := goodIn_r _ [74, 8, 11, 75, 76, 77, 78, 79, 80, 81, 82, 83, 22, 84, 24, 85, 26, 27, 28, 29, 291, 292, 293, 294, 295, 296, 297, 298, 299, 300, 301, 302, 303, 304, 305, 306, 321, 322, 323, 324, 325, 326, 327, 328] (by decide +kernel) (by decide +kernel)
set_option maxRecDepth 20000 in
theorem gL_digest_X9_section : GoodIn wsL_digest (wsV RL 23 RX9 yX9_section wsX9_section) := goodIn_app (goodIn_of _ (by decide +kernel)) ggL_digest_X9_section
set_option maxRecDepth 20000 in
theorem ggL_digest_X9_pump : GoodIn wsL_digest wsX9_pump := goodIn_r _ [89, 8, 17, 90, 91, 92, 93, 94, 95, 96, 97, 98, 99, 100, 101, 102, 103, 104, 105, 106, 107, 108, 109, 110, 291, 292, 293, 294, 295, 296, 297, 298, 299, 300, 301, 302, 303, 304, 305, 306, 314, 315, 316, 317, 318, 319, 320] (by decide +kernel) (by decide +kernel)
set_option maxRecDepth 20000 in
theorem gL_digest_X9_pump : GoodIn wsL_digest (wsV RL 27 RX9 yX9_pump wsX9_pump) := goodIn_app (goodIn_of _ (by decide +kernel)) ggL_digest_X9_pump
set_option maxRecDepth 20000 in
theorem ggL_digest_X9_tide : GoodIn wsL_digest wsX9_tide := goodIn_r _ [114, 8, 115, 70, 116, 117, 6, 118, 291, 292, 293, 294, 295, 296, 297, 298, 299, 300, 301, 302, 303, 304, 305, 306] (by decide +kernel) (by decide +kernel)
set_option maxRecDepth 20000 in
theorem gL_digest_X9_tide : GoodIn wsL_digest (wsV RL 30 RX9 yX9_tide wsX9_tide) := goodIn_app (goodIn_of _ (by decide +kernel)) ggL_digest_X9_tide
set_option maxRecDepth 20000 in
theorem ggL_digest_X9_shutIn : GoodIn wsL_digest wsX9_shutIn := goodIn_r _ [122, 123, 8, 11, 124, 125, 126, 127, 128, 129, 130, 131, 132, 133, 134, 135, 136, 137, 138, 139, 140, 141, 142, 143, 144, 145, 146, 22, 147, 24, 148, 149, 150, 151, 152, 29, 153, 154, 155, 156, 157, 37, 158, 39, 41, 159, 40, 160, 161, 162, 163, 164, 165, 166, 167, 168, 169, 170, 97, 171, 99, 110, 172, 104, 173, 174, 109, 175, 176, 177, 178, 179, 180, 181, 182, 183, 184, 185, 186, 187, 188, 189, 190, 191, 192, 31, 32, 33, 193, 194, 195, 196, 197, 198, 199, 200, 201, 20, 21, 23, 25, 26, 27, 28, 202, 203, 204, 205, 206, 207, 208, 209, 210, 211, 212, 213, 214, 215, 216, 217, 218, 219, 220, 221, 222, 223, 224, 225, 226, 227, 228, 229, 230, 231, 232, 233, 234, 235, 236, 237, 238, 239, 240, 241, 242, 243, 244, 245, 246, 247, 248, 249, 250, 251, 252, 253, 254, 255, 256, 257, 258, 259, 260, 261, 262, 263, 264, 265, 266, 267, 268, 269, 270, 271, 272, 273, 274, 275, 276, 277, 278, 279, 280, 281, 105, 106, 107, 108, 282, 283, 284, 285, 286, 287, 288, 289, 290, 291, 292, 293, 294, 295, 296, 297, 298, 299, 300, 301, 302, 303, 304, 305, 306, 321, 322, 323, 324, 325, 326, 327, 328, 329, 330, 331, 332, 333, 314, 315, 316, 317, 318, 319, 320, 307, 308, 309, 310, 311, 312, 313] (by decide +kernel) (by decide +kernel)
set_option maxRecDepth 20000 in
theorem gL_digest_X9_shutIn : GoodIn wsL_digest (wsV RL 33 RX9 yX9_shutIn wsX9_shutIn) := goodIn_app (goodIn_of _ (by decide +kernel)) ggL_digest_X9_shutIn
set_option maxRecDepth 20000 in
theorem ggL_sections_X9_count : GoodIn wsL_sections wsX9_count := goodIn_r _ [5, 6, 7, 8, 9, 10, 11, 12, 13, 14, 15, 16, 17, 18, 19, 20, 21, 22, 23, 24, 25, 26, 27, 28, 29, 30, 31, 32, 33, 34, 35, 36, 37, 38, 39, 40, 41, 42, 43, 44, 45, 46, 4, 47, 48, 49, 50, 51, 52, 53, 54, 55, 56, 57, 254, 255, 256, 257, 258, 259, 260, 261, 262, 263, 264, 265, 266, 267, 268, 269, 270, 271, 272, 273, 274, 275, 276, 277, 278, 279, 280, 281, 282, 283, 284, 285, 286, 287, 288, 289, 290, 291, 292, 293, 294, 295, 296, 297, 298, 299, 300, 301, 302, 303] (by decide +kernel) (by decide +kernel)
set_option maxRecDepth 20000 in
theorem gL_sections_X9_count : GoodIn wsL_sections (wsV RL 13 RX9 yX9_count wsX9_count) := goodIn_app (goodIn_of _ (by decide +kernel)) ggL_sections_X9_count
set_option maxRecDepth 20000 in
theorem ggL_sections_X9_section : GoodIn wsL_sections wsX9_section := goodIn_r _ [61, 6, 9, 62, 63, 64, 65, 66, 67, 68, 69, 70, 20, 71, 22, 72, 24, 25, 26, 27, 254, 255, 256, 257, 258, 259, 260, 261, 262, 263, 264, 265, 266, 267, 268, 269, 284, 285, 286, 287, 288, 289, 290, 291] (by decide +kernel) (by decide +kernel)
set_option maxRecDepth 20000 in
theorem gL_sections_X9_section : GoodIn wsL_sections (wsV RL 23 RX9 yX9_section wsX9_section) := goodIn_app (goodIn_of _ (by decide +kernel)) ggL_sections_X9_section
set_option maxRecDepth 20000 in
theorem ggL_sections_X9_shutIn : GoodIn wsL_sections wsX9_shutIn := goodIn_r _ [76, 77, 6, 9, 78, 79, 80, 81, 82, 83, 84, 85, 86, 87, 88, 89, 90, 91, 92, 93, 94, 95, 96, 97, 98, 99, 100, 20, 101, 22, 102, 103, 104, 105, 106, 27, 107, 108, 109, 110, 111, 35, 112, 37, 39, 113, 38, 114, 115, 116, 117, 118, 119, 120, 121, 122, 123, 124, 125, 126, 127, 128, 129, 130, 131, 132, 133, 134, 135, 136, 137, 138, 139, 140, 141, 142, 143, 144, 145, 146, 147, 148, 149, 150, 151, 29, 30, 31, 152, 153, 154, 155, 156, 157, 158, 159, 160, 18, 19, 21, 23, 24, 25, 26, 161, 162, 163, 164, 165, 166, 167, 168, 169, 170, 171, 172, 173, 174, 175, 176, 177, 178, 179, 180, 181, 182, 183, 184, 185, 186, 187, 188, 189, 190, 191, 192, 193, 194, 195, 196, 197, 198, 199, 200, 201, 202, 203, 204, 205, 206, 207, 208, 209, 210, 211, 212, 213, 214, 215, 216, 217, 218, 219, 220, 221, 222, 223, 224, 225, 226, 227, 228, 229, 230, 231, 232, 233, 234, 235, 236, 237, 238, 239, 240, 241, 242, 243, 244, 245, 246, 247, 248, 249, 250, 251, 252, 253, 254, 255, 256, 257, 258, 259, 260, 261, 262, 263, 264, 265, 266, 267, 268, 269, 284, 285, 286, 287, 288, 289, 290, 291, 292, 293, 294, 295, 296, 277, 278, 279, 280, 281, 282, 283, 270, 271, 272, 273, 274, 275, 276] (by decide +kernel) (by decide +kernel)
set_option maxRecDepth 20000 in
theorem gL_sections_X9_shutIn : GoodIn wsL_sections (wsV RL 33 RX9 yX9_shutIn wsX9_shutIn) := goodIn_app (goodIn_of _ (by decide +kernel)) ggL_sections_X9_shutIn
