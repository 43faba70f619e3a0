set_option maxRecDepth 20000 in
theorem ggL_law_X3_init : GoodIn wsL_law wsX3_init := goodIn_r _ [9, 10, 11, 12, 13, 14, 15, 16, 17, 18, 19, 20, 21, 22, 23, 24, 25, 26, 454, 455, 456, 457, 458, 459, 474, 475, 476, 477, 478] (by decide +kernel) (by decide +kernel)
set_option maxRecDepth 20000 in
theorem gL_law_X3_init : GoodIn wsL_law (wsX3_init) := ggL_law_X3_init
set_option maxRecDepth 20000 in
theorem ggL_law_X4_init : GoodIn wsL_law wsX4_init := goodIn_r _ [29, 30, 11, 12, 15, 31, 32, 33, 34, 35, 36, 37, 38, 39, 460, 461, 462, 463, 464, 465, 466, 467, 468, 469, 470, 471, 472, 473] (by decide +kernel) (by decide +kernel)
set_option maxRecDepth 20000 in
theorem gL_law_X4_init : GoodIn wsL_law (wsX4_init) := ggL_law_X4_init
set_option maxRecDepth 20000 in
theorem ggL_law_X3_make : GoodIn wsL_law wsX3_make := goodIn_r _ [43, 21, 14, 13, 44, 45, 46, 47, 2, 48, 49, 50, 51, 52, 53, 54, 55, 16, 56, 57, 58, 59, 11, 12, 60, 61, 62, 34, 63, 64, 65, 454, 455, 456, 457, 458, 459, 479, 480, 481, 482, 483] (by decide +kernel) (by decide +kernel)
set_option maxRecDepth 20000 in
theorem gL_law_X3_make : GoodIn wsL_law (wsV RL 13 RX3 yX3_make wsX3_make) := goodIn_app (goodIn_of _ (by decide +kernel)) ggL_law_X3_make
set_option maxRecDepth 20000 in
theorem ggL_law_X4_make : GoodIn wsL_law wsX4_make := goodIn_r _ [69, 39, 31, 32, 33, 36, 37, 70, 71, 5, 72, 73, 74, 75, 76, 77, 78, 79, 80, 81, 82, 38, 460, 461, 462, 463, 464, 465, 466, 467, 468, 469, 470, 471, 472, 473] (by decide +kernel) (by decide +kernel)
set_option maxRecDepth 20000 in
theorem gL_law_X4_make : GoodIn wsL_law (wsV RL 17 RX4 yX4_make wsX4_make) := goodIn_app (goodIn_of _ (by decide +kernel)) ggL_law_X4_make
set_option maxRecDepth 20000 in
theorem ggL_law_X3_take : GoodIn wsL_law wsX3_take := goodIn_r _ [86, 14, 46, 47, 2, 48, 454, 455, 456, 457, 458, 459] (by decide +kernel) (by decide +kernel)
set_option maxRecDepth 20000 in
theorem gL_law_X3_take : GoodIn wsL_law (wsV RL 18 RX3 yX3_take wsX3_take) := goodIn_app (goodIn_of _ (by decide +kernel)) ggL_law_X3_take
set_option maxRecDepth 20000 in
theorem ggL_law_X4_take : GoodIn wsL_law wsX4_take := goodIn_r _ [90, 37, 70, 71, 5, 72, 73, 74, 75, 460, 461, 462, 463, 464, 465, 466, 467, 468, 469, 470, 471, 472, 473] (by decide +kernel) (by decide +kernel)
set_option maxRecDepth 20000 in
theorem gL_law_X4_take : GoodIn wsL_law (wsV RL 22 RX4 yX4_take wsX4_take) := goodIn_app (goodIn_of _ (by decide +kernel)) ggL_law_X4_take
set_option maxRecDepth 20000 in
theorem ggL_law_X3_empty : GoodIn wsL_law wsX3_empty := goodIn_r _ [94, 14, 46, 47, 2, 48, 454, 455, 456, 457, 458, 459] (by decide +kernel) (by decide +kernel)
set_option maxRecDepth 20000 in
theorem gL_law_X3_empty : GoodIn wsL_law (wsV RL 23 RX3 yX3_empty wsX3_empty) := goodIn_app (goodIn_of _ (by decide +kernel)) ggL_law_X3_empty
set_option maxRecDepth 20000 in
theorem ggL_law_X4_empty : GoodIn wsL_law wsX4_empty := goodIn_r _ [98, 37, 70, 71, 5, 72, 73, 74, 75, 460, 461, 462, 463, 464, 465, 466, 467, 468, 469, 470, 471, 472, 473] (by decide +kernel) (by decide +kernel)
set_option maxRecDepth 20000 in
theorem gL_law_X4_empty : GoodIn wsL_law (wsV RL 27 RX4 yX4_empty wsX4_empty) := goodIn_app (goodIn_of _ (by decide +kernel)) ggL_law_X4_empty
set_option maxRecDepth 20000 in
theorem ggL_law_X3_same : GoodIn wsL_law wsX3_same := goodIn_r _ [102, 14, 46, 47, 2, 48, 454, 455, 456, 457, 458, 459] (by decide +kernel) (by decide +kernel)
set_option maxRecDepth 20000 in
theorem gL_law_X3_same : GoodIn wsL_law (wsV RL 28 RX3 yX3_same wsX3_same) := goodIn_app (goodIn_of _ (by decide +kernel)) ggL_law_X3_same
set_option maxRecDepth 20000 in
theorem ggL_law_X4_same : GoodIn wsL_law wsX4_same := goodIn_r _ [106, 37, 70, 71, 5, 72, 73, 74, 75, 460, 461, 462, 463, 464, 465, 466, 467, 468, 469, 470, 471, 472, 473] (by decide +kernel) (by decide +kernel)
set_option maxRecDepth 20000 in
theorem gL_law_X4_same : GoodIn wsL_law (wsV RL 31 RX4 yX4_same wsX4_same) := goodIn_app (goodIn_of _ (by decide +kernel)) ggL_law_X4_same
set_option maxRecDepth 20000 in
theorem ggL_law_X3_look : GoodIn wsL_law wsX3_look := goodIn_r _ [110, 20, 111, 112, 23, 113, 114, 115, 116, 46, 47, 2, 48, 117, 118, 119, 120, 121, 122, 123, 14, 124, 125, 126, 127, 19, 128, 129, 130, 131, 132, 133, 134, 135, 136, 137, 138, 139, 140, 141, 142, 143, 144, 145, 146, 147, 148, 149, 150, 45, 151, 62, 152, 153, 154, 155, 61, 52, 53, 54, 55, 16, 454, 455, 456, 457, 458, 459, 474, 475, 476, 477, 478, 479, 480, 481, 482, 483] (by decide +kernel) (by decide +kernel)
set_option maxRecDepth 20000 in
theorem gL_law_X3_look : GoodIn wsL_law (wsV RL 32 RX3 yX3_look wsX3_look) := goodIn_app (goodIn_of _ (by decide +kernel)) ggL_law_X3_look
set_option maxRecDepth 20000 in
theorem ggL_law_X4_look : GoodIn wsL_law wsX4_look := goodIn_r _ [159, 160, 35, 161, 31, 162, 32, 70, 71, 5, 72, 73, 74, 75, 163, 164, 165, 166, 37, 33, 36, 79, 80, 81, 82, 38, 460, 461, 462, 463, 464, 465, 466, 467, 468, 469, 470, 471, 472, 473] (by decide +kernel) (by decide +kernel)
set_option maxRecDepth 20000 in
theorem gL_law_X4_look : GoodIn wsL_law (wsV RL 36 RX4 yX4_look wsX4_look) := goodIn_app (goodIn_of _ (by decide +kernel)) ggL_law_X4_look
set_option maxRecDepth 20000 in
theorem ggL_law_X3_length : GoodIn wsL_law wsX3_length := goodIn_r _ [170, 20, 124, 171, 46, 47, 2, 48, 117, 118, 119, 172, 173, 174, 175, 114, 120, 121, 122, 123, 14, 125, 126, 127, 19, 128, 129, 130, 131, 132, 133, 134, 135, 136, 137, 138, 139, 140, 141, 142, 143, 144, 145, 146, 147, 148, 149, 150, 45, 151, 62, 152, 153, 154, 155, 61, 176, 52, 53, 54, 55, 16, 454, 455, 456, 457, 458, 459, 474, 475, 476, 477, 478, 479, 480, 481, 482, 483] (by decide +kernel) (by decide +kernel)
set_option maxRecDepth 20000 in
theorem gL_law_X3_length : GoodIn wsL_law (wsV RL 37 RX3 yX3_length wsX3_length) := goodIn_app (goodIn_of _ (by decide +kernel)) ggL_law_X3_length
set_option maxRecDepth 20000 in
theorem ggL_law_X4_length : GoodIn wsL_law wsX4_length := goodIn_r _ [180, 33, 162, 70, 71, 5, 72, 73, 74, 75, 163, 164, 165, 166, 37, 160, 32, 36, 181, 182, 183, 184, 79, 80, 81, 82, 38, 460, 461, 462, 463, 464, 465, 466, 467, 468, 469, 470, 471, 472, 473] (by decide +kernel) (by decide +kernel)
set_option maxRecDepth 20000 in
theorem gL_law_X4_length : GoodIn wsL_law (wsV RL 40 RX4 yX4_length wsX4_length) := goodIn_app (goodIn_of _ (by decide +kernel)) ggL_law_X4_length
set_option maxRecDepth 20000 in
theorem ggL_law_X3_read : GoodIn wsL_law wsX3_read := goodIn_r _ [188, 20, 124, 189, 115, 23, 46, 47, 2, 48, 117, 118, 119, 49, 50, 51, 172, 173, 174, 175, 114, 120, 121, 122, 123, 14, 125, 126, 127, 19, 128, 129, 130, 131, 132, 133, 134, 135, 136, 137, 138, 139, 140, 141, 142, 143, 144, 145, 146, 147, 148, 149, 150, 45, 151, 62, 152, 153, 154, 155, 61, 176, 52, 53, 54, 55, 16, 190, 191, 192, 193, 60, 194, 195, 196, 197, 198, 199, 200, 201, 202, 203, 204, 205, 206, 207, 208, 209, 210, 211, 212, 213, 214, 215, 216, 217, 218, 219, 220, 221, 222, 223, 224, 225, 226, 227, 228, 229, 230, 231, 232, 233, 234, 235, 236, 237, 238, 239, 240, 241, 242, 243, 244, 245, 454, 455, 456, 457, 458, 459, 474, 475, 476, 477, 478, 479, 480, 481, 482, 483] (by decide +kernel) (by decide +kernel)
set_option maxRecDepth 20000 in
theorem gL_law_X3_read : GoodIn wsL_law (wsV RL 41 RX3 yX3_read wsX3_read) := goodIn_app (goodIn_of _ (by decide +kernel)) ggL_law_X3_read
set_option maxRecDepth 20000 in
theorem ggL_law_X4_read : GoodIn wsL_law wsX4_read := goodIn_r _ [249, 31, 162, 35, 161, 70, 71, 5, 72, 73, 74, 75, 76, 77, 78, 250, 251, 252, 253, 32, 33, 254, 255, 256, 257, 163, 164, 165, 166, 37, 160, 36, 181, 182, 183, 184, 258, 259, 260, 261, 262, 263, 79, 80, 81, 82, 38, 264, 265, 266, 267, 268, 269, 270, 271, 272, 273, 274, 275, 276, 277, 278, 279, 280, 281, 282, 283, 284, 285, 286, 287, 288, 289, 290, 291, 292, 293, 294, 295, 460, 461, 462, 463, 464, 465, 466, 467, 468, 469, 470, 471, 472, 473] (by decide +kernel) (by decide +kernel)
set_option maxRecDepth 20000 in
theorem gL_law_X4_read : GoodIn wsL_law (wsV RL 45 RX4 yX4_read wsX4_read) := goodIn_app (goodIn_of _ (by decide +kernel)) ggL_law_X4_read
set_option maxRecDepth 20000 in
theorem ggL_law_X3_write : GoodIn wsL_law wsX3_write := goodIn_r _ [299, 20, 124, 189, 115, 46, 47, 2, 48, 117, 118, 119, 49, 50, 51, 172, 173, 174, 175, 114, 120, 121, 122, 123, 14, 125, 126, 127, 19, 128, 129, 130, 131, 132, 133, 134, 135, 136, 137, 138, 139, 140, 141, 142, 143, 144, 145, 146, 147, 148, 149, 150, 45, 151, 62, 152, 153, 154, 155, 61, 176, 52, 53, 54, 55, 16, 300, 301, 302, 303, 60, 194, 195, 196, 197, 198, 199, 200, 201, 202, 203, 304, 305, 306, 210, 307, 212, 211, 215, 216, 217, 204, 205, 206, 207, 208, 209, 213, 214, 218, 219, 220, 221, 222, 223, 224, 225, 226, 227, 228, 229, 230, 231, 232, 233, 234, 235, 236, 237, 238, 239, 240, 241, 242, 243, 244, 245, 454, 455, 456, 457, 458, 459, 474, 475, 476, 477, 478, 479, 480, 481, 482, 483] (by decide +kernel) (by decide +kernel)
set_option maxRecDepth 20000 in
theorem gL_law_X3_write : GoodIn wsL_law (wsV RL 48 RX3 yX3_write wsX3_write) := goodIn_app (goodIn_of _ (by decide +kernel)) ggL_law_X3_write
set_option maxRecDepth 20000 in
theorem ggL_law_X4_write : GoodIn wsL_law wsX4_write := goodIn_r _ [311, 31, 162, 35, 70, 71, 5, 72, 73, 74, 75, 76, 77, 78, 250, 251, 252, 253, 32, 33, 254, 255, 256, 257, 163, 164, 165, 166, 37, 160, 36, 181, 182, 183, 184, 258, 259, 260, 261, 262, 263, 79, 80, 81, 82, 38, 312, 313, 314, 315, 316, 317, 271, 318, 319, 272, 264, 265, 266, 267, 268, 269, 270, 273, 274, 275, 276, 277, 278, 279, 280, 281, 282, 283, 284, 285, 286, 287, 288, 289, 290, 291, 292, 293, 294, 295, 460, 461, 462, 463, 464, 465, 466, 467, 468, 469, 470, 471, 472, 473] (by decide +kernel) (by decide +kernel)
set_option maxRecDepth 20000 in
theorem gL_law_X4_write : GoodIn wsL_law (wsV RL 52 RX4 yX4_write wsX4_write) := goodIn_app (goodIn_of _ (by decide +kernel)) ggL_law_X4_write
set_option maxRecDepth 20000 in
theorem ggL_law_X3_hang : GoodIn wsL_law wsX3_hang := goodIn_r _ [323, 20, 124, 14, 324, 46, 47, 2, 48, 117, 118, 119, 172, 173, 174, 175, 114, 120, 121, 122, 123, 125, 126, 127, 19, 128, 129, 130, 131, 132, 133, 134, 135, 136, 137, 138, 139, 140, 141, 142, 143, 144, 145, 146, 147, 148, 149, 150, 45, 151, 62, 152, 153, 154, 155, 61, 176, 52, 53, 54, 55, 16, 325, 326, 327, 328, 60, 198, 199, 454, 455, 456, 457, 458, 459, 474, 475, 476, 477, 478, 479, 480, 481, 482, 483] (by decide +kernel) (by decide +kernel)
set_option maxRecDepth 20000 in
theorem gL_law_X3_hang : GoodIn wsL_law (wsV RL 53 RX3 yX3_hang wsX3_hang) := goodIn_app (goodIn_of _ (by decide +kernel)) ggL_law_X3_hang
set_option maxRecDepth 20000 in
theorem ggL_law_X4_hang : GoodIn wsL_law wsX4_hang := goodIn_r _ [332, 37, 32, 162, 33, 36, 70, 71, 5, 72, 73, 74, 75, 254, 255, 256, 257, 163, 164, 165, 166, 160, 181, 182, 183, 184, 79, 80, 81, 82, 38, 258, 259, 260, 333, 334, 335, 336, 31, 460, 461, 462, 463, 464, 465, 466, 467, 468, 469, 470, 471, 472, 473] (by decide +kernel) (by decide +kernel)
set_option maxRecDepth 20000 in
theorem gL_law_X4_hang : GoodIn wsL_law (wsV RL 56 RX4 yX4_hang wsX4_hang) := goodIn_app (goodIn_of _ (by decide +kernel)) ggL_law_X4_hang
set_option maxRecDepth 20000 in
theorem ggL_law_X3_lift : GoodIn wsL_law wsX3_lift := goodIn_r _ [340, 20, 111, 14, 114, 46, 47, 2, 48, 117, 118, 119, 120, 121, 122, 123, 124, 125, 126, 127, 19, 128, 129, 130, 131, 132, 133, 134, 135, 136, 137, 138, 139, 140, 141, 142, 143, 144, 145, 146, 147, 148, 149, 150, 45, 151, 62, 152, 153, 154, 155, 61, 52, 53, 54, 55, 16, 454, 455, 456, 457, 458, 459, 474, 475, 476, 477, 478, 479, 480, 481, 482, 483] (by decide +kernel) (by decide +kernel)
set_option maxRecDepth 20000 in
theorem gL_law_X3_lift : GoodIn wsL_law (wsV RL 57 RX3 yX3_lift wsX3_lift) := goodIn_app (goodIn_of _ (by decide +kernel)) ggL_law_X3_lift
set_option maxRecDepth 20000 in
theorem ggL_law_X4_lift : GoodIn wsL_law wsX4_lift := goodIn_r _ [344, 160, 37, 162, 70, 71, 5, 72, 73, 74, 75, 163, 164, 165, 166, 33, 32, 36, 79, 80, 81, 82, 38, 460, 461, 462, 463, 464, 465, 466, 467, 468, 469, 470, 471, 472, 473] (by decide +kernel) (by decide +kernel)
set_option maxRecDepth 20000 in
theorem gL_law_X4_lift : GoodIn wsL_law (wsV RL 60 RX4 yX4_lift wsX4_lift) := goodIn_app (goodIn_of _ (by decide +kernel)) ggL_law_X4_lift
set_option maxRecDepth 20000 in
theorem ggL_law_X3_turn : GoodIn wsL_law wsX3_turn := goodIn_r _ [348, 20, 124, 46, 47, 2, 48, 117, 118, 119, 172, 173, 174, 175, 114, 120, 121, 122, 123, 14, 125, 126, 127, 19, 128, 129, 130, 131, 132, 133, 134, 135, 136, 137, 138, 139, 140, 141, 142, 143, 144, 145, 146, 147, 148, 149, 150, 45, 151, 62, 152, 153, 154, 155, 61, 176, 52, 53, 54, 55, 16, 349, 350, 351, 352, 353, 63, 65, 198, 454, 455, 456, 457, 458, 459, 474, 475, 476, 477, 478, 479, 480, 481, 482, 483] (by decide +kernel) (by decide +kernel)
set_option maxRecDepth 20000 in
theorem gL_law_X3_turn : GoodIn wsL_law (wsV RL 61 RX3 yX3_turn wsX3_turn) := goodIn_app (goodIn_of _ (by decide +kernel)) ggL_law_X3_turn
set_option maxRecDepth 20000 in
theorem ggL_law_X4_turn : GoodIn wsL_law wsX4_turn := goodIn_r _ [357, 33, 162, 35, 36, 70, 71, 5, 72, 73, 74, 75, 254, 255, 256, 257, 163, 164, 165, 166, 37, 160, 32, 181, 182, 183, 184, 79, 80, 81, 82, 38, 460, 461, 462, 463, 464, 465, 466, 467, 468, 469, 470, 471, 472, 473] (by decide +kernel) (by decide +kernel)
set_option maxRecDepth 20000 in
theorem gL_law_X4_turn : GoodIn wsL_law (wsV RL 64 RX4 yX4_turn wsX4_turn) := goodIn_app (goodIn_of _ (by decide +kernel)) ggL_law_X4_turn
set_option maxRecDepth 20000 in
theorem ggL_law_X3_fill : GoodIn wsL_law wsX3_fill := goodIn_r _ [361, 20, 124, 171, 115, 189, 46, 47, 2, 48, 117, 118, 119, 49, 50, 51, 172, 173, 174, 175, 114, 120, 121, 122, 123, 14, 125, 126, 127, 19, 128, 129, 130, 131, 132, 133, 134, 135, 136, 137, 138, 139, 140, 141, 142, 143, 144, 145, 146, 147, 148, 149, 150, 45, 151, 62, 152, 153, 154, 155, 61, 176, 52, 53, 54, 55, 16, 300, 301, 302, 303, 60, 194, 195, 196, 197, 198, 199, 200, 201, 202, 203, 304, 305, 306, 210, 307, 212, 211, 215, 216, 217, 204, 205, 206, 207, 208, 209, 213, 214, 218, 219, 220, 221, 222, 223, 224, 225, 226, 227, 228, 229, 230, 231, 232, 233, 234, 235, 236, 237, 238, 239, 240, 241, 242, 243, 244, 245, 454, 455, 456, 457, 458, 459, 474, 475, 476, 477, 478, 479, 480, 481, 482, 483] (by decide +kernel) (by decide +kernel)
set_option maxRecDepth 20000 in
theorem gL_law_X3_fill : GoodIn wsL_law (wsV RL 65 RX3 yX3_fill wsX3_fill) := goodIn_app (goodIn_of _ (by decide +kernel)) ggL_law_X3_fill
set_option maxRecDepth 20000 in
theorem ggL_law_X4_fill : GoodIn wsL_law wsX4_fill := goodIn_r _ [365, 33, 162, 32, 31, 35, 70, 71, 5, 72, 73, 74, 75, 76, 77, 78, 254, 255, 256, 257, 163, 164, 165, 166, 37, 160, 36, 181, 182, 183, 184, 261, 262, 263, 79, 80, 81, 82, 38, 312, 313, 314, 315, 316, 317, 271, 318, 319, 272, 264, 265, 266, 267, 268, 269, 270, 273, 274, 275, 276, 277, 278, 279, 280, 281, 282, 283, 284, 285, 286, 287, 288, 289, 290, 291, 292, 293, 294, 295, 460, 461, 462, 463, 464, 465, 466, 467, 468, 469, 470, 471, 472, 473] (by decide +kernel) (by decide +kernel)
set_option maxRecDepth 20000 in
theorem gL_law_X4_fill : GoodIn wsL_law (wsV RL 69 RX4 yX4_fill wsX4_fill) := goodIn_app (goodIn_of _ (by decide +kernel)) ggL_law_X4_fill
set_option maxRecDepth 20000 in
theorem ggL_law_X3_pour : GoodIn wsL_law wsX3_pour := goodIn_r _ [369, 22, 14, 171, 46, 47, 2, 48, 52, 53, 54, 55, 16, 370, 371, 372, 45, 373, 65, 60, 198, 153, 154, 155, 61, 374, 326, 327, 328, 199, 149, 150, 151, 62, 200, 201, 202, 203, 375, 376, 377, 378, 63, 379, 205, 206, 207, 208, 209, 210, 211, 212, 213, 214, 215, 216, 217, 218, 219, 220, 221, 222, 223, 224, 225, 226, 227, 228, 229, 230, 231, 232, 233, 234, 235, 236, 237, 238, 239, 240, 241, 242, 243, 244, 245, 454, 455, 456, 457, 458, 459, 479, 480, 481, 482, 483] (by decide +kernel) (by decide +kernel)
set_option maxRecDepth 20000 in
theorem gL_law_X3_pour : GoodIn wsL_law (wsV RL 70 RX3 yX3_pour wsX3_pour) := goodIn_app (goodIn_of _ (by decide +kernel)) ggL_law_X3_pour
set_option maxRecDepth 20000 in
theorem ggL_law_X4_pour : GoodIn wsL_law wsX4_pour := goodIn_r _ [383, 384, 37, 33, 70, 71, 5, 72, 73, 74, 75, 79, 80, 81, 82, 38, 385, 386, 387, 388, 32, 36, 31, 35, 261, 262, 263, 264, 265, 266, 267, 268, 269, 270, 271, 272, 273, 274, 275, 276, 277, 278, 279, 280, 281, 282, 283, 284, 285, 286, 287, 288, 289, 290, 291, 292, 293, 294, 295, 333, 334, 335, 336, 460, 461, 462, 463, 464, 465, 466, 467, 468, 469, 470, 471, 472, 473] (by decide +kernel) (by decide +kernel)
set_option maxRecDepth 20000 in
theorem gL_law_X4_pour : GoodIn wsL_law (wsV RL 73 RX4 yX4_pour wsX4_pour) := goodIn_app (goodIn_of _ (by decide +kernel)) ggL_law_X4_pour
set_option maxRecDepth 20000 in
theorem ggL_law_X3_moved : GoodIn wsL_law wsX3_moved := goodIn_r _ [392, 22, 454, 455, 456, 457, 458, 459] (by decide +kernel) (by decide +kernel)
set_option maxRecDepth 20000 in
theorem gL_law_X3_moved : GoodIn wsL_law (wsV RL 74 RX3 yX3_moved wsX3_moved) := goodIn_app (goodIn_of _ (by decide +kernel)) ggL_law_X3_moved
set_option maxRecDepth 20000 in
theorem ggL_law_X4_moved : GoodIn wsL_law wsX4_moved := goodIn_r _ [396, 384, 460, 461, 462, 463, 464, 465, 466, 467, 468, 469, 470, 471, 472, 473] (by decide +kernel) (by decide +kernel)
set_option maxRecDepth 20000 in
theorem gL_law_X4_moved : GoodIn wsL_law (wsV RL 78 RX4 yX4_moved wsX4_moved) := goodIn_app (goodIn_of _ (by decide +kernel)) ggL_law_X4_moved
set_option maxRecDepth 20000 in
theorem ggL_law_X3_total : GoodIn wsL_law wsX3_total := goodIn_r _ [400, 20, 124, 115, 23, 46, 47, 2, 48, 117, 118, 119, 172, 173, 174, 175, 114, 120, 121, 122, 123, 14, 125, 126, 127, 19, 128, 129, 130, 131, 132, 133, 134, 135, 136, 137, 138, 139, 140, 141, 142, 143, 144, 145, 146, 147, 148, 149, 150, 45, 151, 62, 152, 153, 154, 155, 61, 176, 52, 53, 54, 55, 16, 401, 201, 202, 203, 402, 403, 404, 189, 324, 405, 406, 407, 454, 455, 456, 457, 458, 459, 474, 475, 476, 477, 478, 479, 480, 481, 482, 483] (by decide +kernel) (by decide +kernel)
set_option maxRecDepth 20000 in
theorem gL_law_X3_total : GoodIn wsL_law (wsV RL 79 RX3 yX3_total wsX3_total) := goodIn_app (goodIn_of _ (by decide +kernel)) ggL_law_X3_total
set_option maxRecDepth 20000 in
theorem ggL_law_X4_total : GoodIn wsL_law wsX4_total := goodIn_r _ [411, 162, 31, 412, 413, 161, 70, 71, 5, 72, 73, 74, 75, 254, 255, 256, 257, 163, 164, 165, 166, 37, 160, 33, 32, 36, 181, 182, 183, 184, 414, 415, 416, 417, 418, 419, 420, 421, 35, 422, 423, 424, 425, 261, 262, 263, 79, 80, 81, 82, 38, 460, 461, 462, 463, 464, 465, 466, 467, 468, 469, 470, 471, 472, 473] (by decide +kernel) (by decide +kernel)
set_option maxRecDepth 20000 in
theorem gL_law_X4_total : GoodIn wsL_law (wsV RL 82 RX4 yX4_total wsX4_total) := goodIn_app (goodIn_of _ (by decide +kernel)) ggL_law_X4_total
set_option maxRecDepth 20000 in
theorem ggL_law_X3_count : GoodIn wsL_law wsX3_count := goodIn_r _ [429, 20, 124, 46, 47, 2, 48, 117, 118, 119, 172, 173, 174, 175, 114, 120, 121, 122, 123, 14, 125, 126, 127, 19, 128, 129, 130, 131, 132, 133, 134, 135, 136, 137, 138, 139, 140, 141, 142, 143, 144, 145, 146, 147, 148, 149, 150, 45, 151, 62, 152, 153, 154, 155, 61, 176, 52, 53, 54, 55, 16, 402, 403, 404, 189, 324, 454, 455, 456, 457, 458, 459, 474, 475, 476, 477, 478, 479, 480, 481, 482, 483] (by decide +kernel) (by decide +kernel)
set_option maxRecDepth 20000 in
theorem gL_law_X3_count : GoodIn wsL_law (wsV RL 83 RX3 yX3_count wsX3_count) := goodIn_app (goodIn_of _ (by decide +kernel)) ggL_law_X3_count
set_option maxRecDepth 20000 in
theorem ggL_law_X4_count : GoodIn wsL_law wsX4_count := goodIn_r _ [433, 162, 412, 70, 71, 5, 72, 73, 74, 75, 254, 255, 256, 257, 163, 164, 165, 166, 37, 160, 33, 32, 36, 181, 182, 183, 184, 79, 80, 81, 82, 38, 414, 415, 416, 417, 413, 418, 419, 420, 421, 35, 422, 423, 424, 425, 460, 461, 462, 463, 464, 465, 466, 467, 468, 469, 470, 471, 472, 473] (by decide +kernel) (by decide +kernel)
set_option maxRecDepth 20000 in
theorem gL_law_X4_count : GoodIn wsL_law (wsV RL 86 RX4 yX4_count wsX4_count) := goodIn_app (goodIn_of _ (by decide +kernel)) ggL_law_X4_count
set_option maxRecDepth 20000 in
theorem ggL_law_X3_seen : GoodIn wsL_law wsX3_seen := goodIn_r _ [437, 23, 454, 455, 456, 457, 458, 459] (by decide +kernel) (by decide +kernel)
set_option maxRecDepth 20000 in
theorem gL_law_X3_seen : GoodIn wsL_law (wsV RL 87 RX3 yX3_seen wsX3_seen) := goodIn_app (goodIn_of _ (by decide +kernel)) ggL_law_X3_seen
set_option maxRecDepth 20000 in
theorem ggL_law_X4_seen : GoodIn wsL_law wsX4_seen := goodIn_r _ [441, 161, 460, 461, 462, 463, 464, 465, 466, 467, 468, 469, 470, 471, 472, 473] (by decide +kernel) (by decide +kernel)
set_option maxRecDepth 20000 in
theorem gL_law_X4_seen : GoodIn wsL_law (wsV RL 91 RX4 yX4_seen wsX4_seen) := goodIn_app (goodIn_of _ (by decide +kernel)) ggL_law_X4_seen
set_option maxRecDepth 20000 in
theorem ggL_law_X3_about : GoodIn wsL_law wsX3_about := goodIn_r _ [445, 21, 16, 446, 447, 448, 2, 449, 14, 454, 455, 456, 457, 458, 459] (by decide +kernel) (by decide +kernel)
set_option maxRecDepth 20000 in
theorem gL_law_X3_about : GoodIn wsL_law (wsV RL 92 RX3 yX3_about wsX3_about) := goodIn_app (goodIn_of _ (by decide +kernel)) ggL_law_X3_about
set_option maxRecDepth 20000 in
theorem ggL_law_X4_about : GoodIn wsL_law wsX4_about := goodIn_r _ [453, 37, 39, 38, 73, 74, 5, 75, 460, 461, 462, 463, 464, 465, 466, 467, 468, 469, 470, 471, 472, 473] (by decide +kernel) (by decide +kernel)
set_option maxRecDepth 20000 in
theorem gL_law_X4_about : GoodIn wsL_law (wsV RL 95 RX4 yX4_about wsX4_about) := goodIn_app (goodIn_of _ (by decide +kernel)) ggL_law_X4_about
theorem dL_law_0 : decode cL_law 0 = .ok (.new 7, 3) := by decide +kernel
theorem dL_law_3 : decode cL_law 3 = .ok (.dup, 1) := by decide +kernel
theorem dL_law_4 : decode cL_law 4 = .ok (.invokespecial 9, 3) := by decide +kernel
theorem dL_law_7 : decode cL_law 7 = .ok (.astore_n 1, 1) := by decide +kernel
theorem dL_law_8 : decode cL_law 8 = .ok (.new 10, 3) := by decide +kernel
theorem dL_law_11 : decode cL_law 11 = .ok (.dup, 1) := by decide +kernel
theorem dL_law_12 : decode cL_law 12 = .ok (.invokespecial 12, 3) := by decide +kernel
theorem dL_law_15 : decode cL_law 15 = .ok (.astore_n 2, 1) := by decide +kernel
theorem dL_law_16 : decode cL_law 16 = .ok (.iconst 0, 1) := by decide +kernel
theorem dL_law_17 : decode cL_law 17 = .ok (.istore_n 3, 1) := by decide +kernel
theorem dL_law_18 : decode cL_law 18 = .ok (.iload_n 3, 1) := by decide +kernel
theorem dL_law_19 : decode cL_law 19 = .ok (.aload_n 0, 1) := by decide +kernel
theorem dL_law_20 : decode cL_law 20 = .ok (.arraylength, 1) := by decide +kernel
theorem dL_law_21 : decode cL_law 21 = .ok (.bipush 9, 2) := by decide +kernel
theorem dL_law_23 : decode cL_law 23 = .ok (.isub, 1) := by decide +kernel
theorem dL_law_24 : decode cL_law 24 = .ok (.if_icmp .gt 1085, 3) := by decide +kernel
theorem dL_law_27 : decode cL_law 27 = .ok (.aload_n 0, 1) := by decide +kernel
theorem dL_law_28 : decode cL_law 28 = .ok (.iload_n 3, 1) := by decide +kernel
theorem dL_law_29 : decode cL_law 29 = .ok (.iaload, 1) := by decide +kernel
theorem dL_law_30 : decode cL_law 30 = .ok (.bipush 31, 2) := by decide +kernel
theorem dL_law_32 : decode cL_law 32 = .ok (.iand, 1) := by decide +kernel
theorem dL_law_33 : decode cL_law 33 = .ok (.tableswitch 1070 0 17 #[87, 140, 173, 196, 229, 292, 355, 430, 549, 624, 699, 774, 881, 914, 927, 980, 1033, 1047], 87) := by decide +kernel
theorem dL_law_120 : decode cL_law 120 = .ok (.aload_n 1, 1) := by decide +kernel
theorem dL_law_121 : decode cL_law 121 = .ok (.aload_n 0, 1) := by decide +kernel
theorem dL_law_122 : decode cL_law 122 = .ok (.iload_n 3, 1) := by decide +kernel
theorem dL_law_123 : decode cL_law 123 = .ok (.iconst 1, 1) := by decide +kernel
theorem dL_law_124 : decode cL_law 124 = .ok (.iadd, 1) := by decide +kernel
theorem dL_law_125 : decode cL_law 125 = .ok (.iaload, 1) := by decide +kernel
theorem dL_law_126 : decode cL_law 126 = .ok (.aload_n 0, 1) := by decide +kernel
theorem dL_law_127 : decode cL_law 127 = .ok (.iload_n 3, 1) := by decide +kernel
theorem dL_law_128 : decode cL_law 128 = .ok (.iconst 2, 1) := by decide +kernel
theorem dL_law_129 : decode cL_law 129 = .ok (.iadd, 1) := by decide +kernel
theorem dL_law_130 : decode cL_law 130 = .ok (.iaload, 1) := by decide +kernel
theorem dL_law_131 : decode cL_law 131 = .ok (.aload_n 0, 1) := by decide +kernel
theorem dL_law_132 : decode cL_law 132 = .ok (.iload_n 3, 1) := by decide +kernel
theorem dL_law_133 : decode cL_law 133 = .ok (.iconst 3, 1) := by decide +kernel
theorem dL_law_134 : decode cL_law 134 = .ok (.iadd, 1) := by decide +kernel
theorem dL_law_135 : decode cL_law 135 = .ok (.iaload, 1) := by decide +kernel
theorem dL_law_136 : decode cL_law 136 = .ok (.aload_n 0, 1) := by decide +kernel
theorem dL_law_137 : decode cL_law 137 = .ok (.iload_n 3, 1) := by decide +kernel
theorem dL_law_138 : decode cL_law 138 = .ok (.iconst 4, 1) := by decide +kernel
theorem dL_law_139 : decode cL_law 139 = .ok (.iadd, 1) := by decide +kernel
theorem dL_law_140 : decode cL_law 140 = .ok (.iaload, 1) := by decide +kernel
theorem dL_law_141 : decode cL_law 141 = .ok (.invokevirtual 13, 3) := by decide +kernel
theorem dL_law_144 : decode cL_law 144 = .ok (.aload_n 2, 1) := by decide +kernel
theorem dL_law_145 : decode cL_law 145 = .ok (.aload_n 0, 1) := by decide +kernel
theorem dL_law_146 : decode cL_law 146 = .ok (.iload_n 3, 1) := by decide +kernel
theorem dL_law_147 : decode cL_law 147 = .ok (.iconst 1, 1) := by decide +kernel
theorem dL_law_148 : decode cL_law 148 = .ok (.iadd, 1) := by decide +kernel
theorem dL_law_149 : decode cL_law 149 = .ok (.iaload, 1) := by decide +kernel
theorem dL_law_150 : decode cL_law 150 = .ok (.aload_n 0, 1) := by decide +kernel
theorem dL_law_151 : decode cL_law 151 = .ok (.iload_n 3, 1) := by decide +kernel
theorem dL_law_152 : decode cL_law 152 = .ok (.iconst 2, 1) := by decide +kernel
theorem dL_law_153 : decode cL_law 153 = .ok (.iadd, 1) := by decide +kernel
theorem dL_law_154 : decode cL_law 154 = .ok (.iaload, 1) := by decide +kernel
theorem dL_law_155 : decode cL_law 155 = .ok (.aload_n 0, 1) := by decide +kernel
theorem dL_law_156 : decode cL_law 156 = .ok (.iload_n 3, 1) := by decide +kernel
theorem dL_law_157 : decode cL_law 157 = .ok (.iconst 3, 1) := by decide +kernel
theorem dL_law_158 : decode cL_law 158 = .ok (.iadd, 1) := by decide +kernel
theorem dL_law_159 : decode cL_law 159 = .ok (.iaload, 1) := by decide +kernel
theorem dL_law_160 : decode cL_law 160 = .ok (.aload_n 0, 1) := by decide +kernel
theorem dL_law_161 : decode cL_law 161 = .ok (.iload_n 3, 1) := by decide +kernel
theorem dL_law_162 : decode cL_law 162 = .ok (.iconst 4, 1) := by decide +kernel
theorem dL_law_163 : decode cL_law 163 = .ok (.iadd, 1) := by decide +kernel
theorem dL_law_164 : decode cL_law 164 = .ok (.iaload, 1) := by decide +kernel
theorem dL_law_165 : decode cL_law 165 = .ok (.invokevirtual 17, 3) := by decide +kernel
theorem dL_law_168 : decode cL_law 168 = .ok (.if_icmp .eq 935, 3) := by decide +kernel
theorem dL_law_171 : decode cL_law 171 = .ok (.iconst 0, 1) := by decide +kernel
theorem dL_law_172 : decode cL_law 172 = .ok (.ireturn, 1) := by decide +kernel
theorem dL_law_173 : decode cL_law 173 = .ok (.aload_n 1, 1) := by decide +kernel
theorem dL_law_174 : decode cL_law 174 = .ok (.aload_n 0, 1) := by decide +kernel
theorem dL_law_175 : decode cL_law 175 = .ok (.iload_n 3, 1) := by decide +kernel
theorem dL_law_176 : decode cL_law 176 = .ok (.iconst 1, 1) := by decide +kernel
theorem dL_law_177 : decode cL_law 177 = .ok (.iadd, 1) := by decide +kernel
theorem dL_law_178 : decode cL_law 178 = .ok (.iaload, 1) := by decide +kernel
theorem dL_law_179 : decode cL_law 179 = .ok (.aload_n 0, 1) := by decide +kernel
theorem dL_law_180 : decode cL_law 180 = .ok (.iload_n 3, 1) := by decide +kernel
theorem dL_law_181 : decode cL_law 181 = .ok (.iconst 2, 1) := by decide +kernel
theorem dL_law_182 : decode cL_law 182 = .ok (.iadd, 1) := by decide +kernel
theorem dL_law_183 : decode cL_law 183 = .ok (.iaload, 1) := by decide +kernel
theorem dL_law_184 : decode cL_law 184 = .ok (.invokevirtual 18, 3) := by decide +kernel
theorem dL_law_187 : decode cL_law 187 = .ok (.aload_n 2, 1) := by decide +kernel
theorem dL_law_188 : decode cL_law 188 = .ok (.aload_n 0, 1) := by decide +kernel
theorem dL_law_189 : decode cL_law 189 = .ok (.iload_n 3, 1) := by decide +kernel
theorem dL_law_190 : decode cL_law 190 = .ok (.iconst 1, 1) := by decide +kernel
theorem dL_law_191 : decode cL_law 191 = .ok (.iadd, 1) := by decide +kernel
theorem dL_law_192 : decode cL_law 192 = .ok (.iaload, 1) := by decide +kernel
theorem dL_law_193 : decode cL_law 193 = .ok (.aload_n 0, 1) := by decide +kernel
theorem dL_law_194 : decode cL_law 194 = .ok (.iload_n 3, 1) := by decide +kernel
theorem dL_law_195 : decode cL_law 195 = .ok (.iconst 2, 1) := by decide +kernel
theorem dL_law_196 : decode cL_law 196 = .ok (.iadd, 1) := by decide +kernel
theorem dL_law_197 : decode cL_law 197 = .ok (.iaload, 1) := by decide +kernel
theorem dL_law_198 : decode cL_law 198 = .ok (.invokevirtual 22, 3) := by decide +kernel
theorem dL_law_201 : decode cL_law 201 = .ok (.if_icmp .eq 902, 3) := by decide +kernel
theorem dL_law_204 : decode cL_law 204 = .ok (.iconst 0, 1) := by decide +kernel
theorem dL_law_205 : decode cL_law 205 = .ok (.ireturn, 1) := by decide +kernel
theorem dL_law_206 : decode cL_law 206 = .ok (.aload_n 1, 1) := by decide +kernel
theorem dL_law_207 : decode cL_law 207 = .ok (.aload_n 0, 1) := by decide +kernel
theorem dL_law_208 : decode cL_law 208 = .ok (.iload_n 3, 1) := by decide +kernel
theorem dL_law_209 : decode cL_law 209 = .ok (.iconst 1, 1) := by decide +kernel
theorem dL_law_210 : decode cL_law 210 = .ok (.iadd, 1) := by decide +kernel
theorem dL_law_211 : decode cL_law 211 = .ok (.iaload, 1) := by decide +kernel
theorem dL_law_212 : decode cL_law 212 = .ok (.invokevirtual 23, 3) := by decide +kernel
theorem dL_law_215 : decode cL_law 215 = .ok (.aload_n 2, 1) := by decide +kernel
theorem dL_law_216 : decode cL_law 216 = .ok (.aload_n 0, 1) := by decide +kernel
theorem dL_law_217 : decode cL_law 217 = .ok (.iload_n 3, 1) := by decide +kernel
theorem dL_law_218 : decode cL_law 218 = .ok (.iconst 1, 1) := by decide +kernel
theorem dL_law_219 : decode cL_law 219 = .ok (.iadd, 1) := by decide +kernel
theorem dL_law_220 : decode cL_law 220 = .ok (.iaload, 1) := by decide +kernel
theorem dL_law_221 : decode cL_law 221 = .ok (.invokevirtual 27, 3) := by decide +kernel
theorem dL_law_224 : decode cL_law 224 = .ok (.if_icmp .eq 879, 3) := by decide +kernel
theorem dL_law_227 : decode cL_law 227 = .ok (.iconst 0, 1) := by decide +kernel
theorem dL_law_228 : decode cL_law 228 = .ok (.ireturn, 1) := by decide +kernel
theorem dL_law_229 : decode cL_law 229 = .ok (.aload_n 1, 1) := by decide +kernel
theorem dL_law_230 : decode cL_law 230 = .ok (.aload_n 0, 1) := by decide +kernel
theorem dL_law_231 : decode cL_law 231 = .ok (.iload_n 3, 1) := by decide +kernel
theorem dL_law_232 : decode cL_law 232 = .ok (.iconst 1, 1) := by decide +kernel
theorem dL_law_233 : decode cL_law 233 = .ok (.iadd, 1) := by decide +kernel
theorem dL_law_234 : decode cL_law 234 = .ok (.iaload, 1) := by decide +kernel
theorem dL_law_235 : decode cL_law 235 = .ok (.aload_n 0, 1) := by decide +kernel
theorem dL_law_236 : decode cL_law 236 = .ok (.iload_n 3, 1) := by decide +kernel
theorem dL_law_237 : decode cL_law 237 = .ok (.iconst 2, 1) := by decide +kernel
theorem dL_law_238 : decode cL_law 238 = .ok (.iadd, 1) := by decide +kernel
theorem dL_law_239 : decode cL_law 239 = .ok (.iaload, 1) := by decide +kernel
theorem dL_law_240 : decode cL_law 240 = .ok (.invokevirtual 28, 3) := by decide +kernel
theorem dL_law_243 : decode cL_law 243 = .ok (.aload_n 2, 1) := by decide +kernel
theorem dL_law_244 : decode cL_law 244 = .ok (.aload_n 0, 1) := by decide +kernel
theorem dL_law_245 : decode cL_law 245 = .ok (.iload_n 3, 1) := by decide +kernel
theorem dL_law_246 : decode cL_law 246 = .ok (.iconst 1, 1) := by decide +kernel
theorem dL_law_247 : decode cL_law 247 = .ok (.iadd, 1) := by decide +kernel
theorem dL_law_248 : decode cL_law 248 = .ok (.iaload, 1) := by decide +kernel
theorem dL_law_249 : decode cL_law 249 = .ok (.aload_n 0, 1) := by decide +kernel
theorem dL_law_250 : decode cL_law 250 = .ok (.iload_n 3, 1) := by decide +kernel
theorem dL_law_251 : decode cL_law 251 = .ok (.iconst 2, 1) := by decide +kernel
theorem dL_law_252 : decode cL_law 252 = .ok (.iadd, 1) := by decide +kernel
theorem dL_law_253 : decode cL_law 253 = .ok (.iaload, 1) := by decide +kernel
theorem dL_law_254 : decode cL_law 254 = .ok (.invokevirtual 31, 3) := by decide +kernel
theorem dL_law_257 : decode cL_law 257 = .ok (.if_icmp .eq 846, 3) := by decide +kernel
theorem dL_law_260 : decode cL_law 260 = .ok (.iconst 0, 1) := by decide +kernel
theorem dL_law_261 : decode cL_law 261 = .ok (.ireturn, 1) := by decide +kernel
theorem dL_law_262 : decode cL_law 262 = .ok (.aload_n 1, 1) := by decide +kernel
theorem dL_law_263 : decode cL_law 263 = .ok (.aload_n 0, 1) := by decide +kernel
theorem dL_law_264 : decode cL_law 264 = .ok (.iload_n 3, 1) := by decide +kernel
theorem dL_law_265 : decode cL_law 265 = .ok (.iconst 1, 1) := by decide +kernel
theorem dL_law_266 : decode cL_law 266 = .ok (.iadd, 1) := by decide +kernel
theorem dL_law_267 : decode cL_law 267 = .ok (.iaload, 1) := by decide +kernel
theorem dL_law_268 : decode cL_law 268 = .ok (.aload_n 0, 1) := by decide +kernel
theorem dL_law_269 : decode cL_law 269 = .ok (.iload_n 3, 1) := by decide +kernel
theorem dL_law_270 : decode cL_law 270 = .ok (.iconst 2, 1) := by decide +kernel
theorem dL_law_271 : decode cL_law 271 = .ok (.iadd, 1) := by decide +kernel
theorem dL_law_272 : decode cL_law 272 = .ok (.iaload, 1) := by decide +kernel
theorem dL_law_273 : decode cL_law 273 = .ok (.aload_n 0, 1) := by decide +kernel
theorem dL_law_274 : decode cL_law 274 = .ok (.iload_n 3, 1) := by decide +kernel
theorem dL_law_275 : decode cL_law 275 = .ok (.iconst 3, 1) := by decide +kernel
theorem dL_law_276 : decode cL_law 276 = .ok (.iadd, 1) := by decide +kernel
theorem dL_law_277 : decode cL_law 277 = .ok (.iaload, 1) := by decide +kernel
theorem dL_law_278 : decode cL_law 278 = .ok (.aload_n 0, 1) := by decide +kernel
theorem dL_law_279 : decode cL_law 279 = .ok (.iload_n 3, 1) := by decide +kernel
theorem dL_law_280 : decode cL_law 280 = .ok (.iconst 4, 1) := by decide +kernel
theorem dL_law_281 : decode cL_law 281 = .ok (.iadd, 1) := by decide +kernel
theorem dL_law_282 : decode cL_law 282 = .ok (.iaload, 1) := by decide +kernel
theorem dL_law_283 : decode cL_law 283 = .ok (.aload_n 0, 1) := by decide +kernel
theorem dL_law_284 : decode cL_law 284 = .ok (.iload_n 3, 1) := by decide +kernel
theorem dL_law_285 : decode cL_law 285 = .ok (.iconst 5, 1) := by decide +kernel
theorem dL_law_286 : decode cL_law 286 = .ok (.iadd, 1) := by decide +kernel
theorem dL_law_287 : decode cL_law 287 = .ok (.iaload, 1) := by decide +kernel
theorem dL_law_288 : decode cL_law 288 = .ok (.invokevirtual 32, 3) := by decide +kernel
theorem dL_law_291 : decode cL_law 291 = .ok (.aload_n 2, 1) := by decide +kernel
theorem dL_law_292 : decode cL_law 292 = .ok (.aload_n 0, 1) := by decide +kernel
theorem dL_law_293 : decode cL_law 293 = .ok (.iload_n 3, 1) := by decide +kernel
theorem dL_law_294 : decode cL_law 294 = .ok (.iconst 1, 1) := by decide +kernel
theorem dL_law_295 : decode cL_law 295 = .ok (.iadd, 1) := by decide +kernel
theorem dL_law_296 : decode cL_law 296 = .ok (.iaload, 1) := by decide +kernel
theorem dL_law_297 : decode cL_law 297 = .ok (.aload_n 0, 1) := by decide +kernel
theorem dL_law_298 : decode cL_law 298 = .ok (.iload_n 3, 1) := by decide +kernel
theorem dL_law_299 : decode cL_law 299 = .ok (.iconst 2, 1) := by decide +kernel
theorem dL_law_300 : decode cL_law 300 = .ok (.iadd, 1) := by decide +kernel
theorem dL_law_301 : decode cL_law 301 = .ok (.iaload, 1) := by decide +kernel
theorem dL_law_302 : decode cL_law 302 = .ok (.aload_n 0, 1) := by decide +kernel
theorem dL_law_303 : decode cL_law 303 = .ok (.iload_n 3, 1) := by decide +kernel
theorem dL_law_304 : decode cL_law 304 = .ok (.iconst 3, 1) := by decide +kernel
theorem dL_law_305 : decode cL_law 305 = .ok (.iadd, 1) := by decide +kernel
theorem dL_law_306 : decode cL_law 306 = .ok (.iaload, 1) := by decide +kernel
theorem dL_law_307 : decode cL_law 307 = .ok (.aload_n 0, 1) := by decide +kernel
theorem dL_law_308 : decode cL_law 308 = .ok (.iload_n 3, 1) := by decide +kernel
theorem dL_law_309 : decode cL_law 309 = .ok (.iconst 4, 1) := by decide +kernel
theorem dL_law_310 : decode cL_law 310 = .ok (.iadd, 1) := by decide +kernel
theorem dL_law_311 : decode cL_law 311 = .ok (.iaload, 1) := by decide +kernel
theorem dL_law_312 : decode cL_law 312 = .ok (.aload_n 0, 1) := by decide +kernel
theorem dL_law_313 : decode cL_law 313 = .ok (.iload_n 3, 1) := by decide +kernel
theorem dL_law_314 : decode cL_law 314 = .ok (.iconst 5, 1) := by decide +kernel
theorem dL_law_315 : decode cL_law 315 = .ok (.iadd, 1) := by decide +kernel
theorem dL_law_316 : decode cL_law 316 = .ok (.iaload, 1) := by decide +kernel
theorem dL_law_317 : decode cL_law 317 = .ok (.invokevirtual 36, 3) := by decide +kernel
theorem dL_law_320 : decode cL_law 320 = .ok (.if_icmp .eq 783, 3) := by decide +kernel
theorem dL_law_323 : decode cL_law 323 = .ok (.iconst 0, 1) := by decide +kernel
theorem dL_law_324 : decode cL_law 324 = .ok (.ireturn, 1) := by decide +kernel
theorem dL_law_325 : decode cL_law 325 = .ok (.aload_n 1, 1) := by decide +kernel
theorem dL_law_326 : decode cL_law 326 = .ok (.aload_n 0, 1) := by decide +kernel
theorem dL_law_327 : decode cL_law 327 = .ok (.iload_n 3, 1) := by decide +kernel
theorem dL_law_328 : decode cL_law 328 = .ok (.iconst 1, 1) := by decide +kernel
theorem dL_law_329 : decode cL_law 329 = .ok (.iadd, 1) := by decide +kernel
theorem dL_law_330 : decode cL_law 330 = .ok (.iaload, 1) := by decide +kernel
theorem dL_law_331 : decode cL_law 331 = .ok (.aload_n 0, 1) := by decide +kernel
theorem dL_law_332 : decode cL_law 332 = .ok (.iload_n 3, 1) := by decide +kernel
theorem dL_law_333 : decode cL_law 333 = .ok (.iconst 2, 1) := by decide +kernel
theorem dL_law_334 : decode cL_law 334 = .ok (.iadd, 1) := by decide +kernel
theorem dL_law_335 : decode cL_law 335 = .ok (.iaload, 1) := by decide +kernel
theorem dL_law_336 : decode cL_law 336 = .ok (.aload_n 0, 1) := by decide +kernel
theorem dL_law_337 : decode cL_law 337 = .ok (.iload_n 3, 1) := by decide +kernel
theorem dL_law_338 : decode cL_law 338 = .ok (.iconst 3, 1) := by decide +kernel
theorem dL_law_339 : decode cL_law 339 = .ok (.iadd, 1) := by decide +kernel
theorem dL_law_340 : decode cL_law 340 = .ok (.iaload, 1) := by decide +kernel
theorem dL_law_341 : decode cL_law 341 = .ok (.aload_n 0, 1) := by decide +kernel
theorem dL_law_342 : decode cL_law 342 = .ok (.iload_n 3, 1) := by decide +kernel
theorem dL_law_343 : decode cL_law 343 = .ok (.iconst 4, 1) := by decide +kernel
theorem dL_law_344 : decode cL_law 344 = .ok (.iadd, 1) := by decide +kernel
theorem dL_law_345 : decode cL_law 345 = .ok (.iaload, 1) := by decide +kernel
theorem dL_law_346 : decode cL_law 346 = .ok (.aload_n 0, 1) := by decide +kernel
theorem dL_law_347 : decode cL_law 347 = .ok (.iload_n 3, 1) := by decide +kernel
theorem dL_law_348 : decode cL_law 348 = .ok (.iconst 5, 1) := by decide +kernel
theorem dL_law_349 : decode cL_law 349 = .ok (.iadd, 1) := by decide +kernel
theorem dL_law_350 : decode cL_law 350 = .ok (.iaload, 1) := by decide +kernel
theorem dL_law_351 : decode cL_law 351 = .ok (.invokevirtual 37, 3) := by decide +kernel
theorem dL_law_354 : decode cL_law 354 = .ok (.aload_n 2, 1) := by decide +kernel
theorem dL_law_355 : decode cL_law 355 = .ok (.aload_n 0, 1) := by decide +kernel
theorem dL_law_356 : decode cL_law 356 = .ok (.iload_n 3, 1) := by decide +kernel
theorem dL_law_357 : decode cL_law 357 = .ok (.iconst 1, 1) := by decide +kernel
theorem dL_law_358 : decode cL_law 358 = .ok (.iadd, 1) := by decide +kernel
theorem dL_law_359 : decode cL_law 359 = .ok (.iaload, 1) := by decide +kernel
theorem dL_law_360 : decode cL_law 360 = .ok (.aload_n 0, 1) := by decide +kernel
theorem dL_law_361 : decode cL_law 361 = .ok (.iload_n 3, 1) := by decide +kernel
theorem dL_law_362 : decode cL_law 362 = .ok (.iconst 2, 1) := by decide +kernel
theorem dL_law_363 : decode cL_law 363 = .ok (.iadd, 1) := by decide +kernel
theorem dL_law_364 : decode cL_law 364 = .ok (.iaload, 1) := by decide +kernel
theorem dL_law_365 : decode cL_law 365 = .ok (.aload_n 0, 1) := by decide +kernel
theorem dL_law_366 : decode cL_law 366 = .ok (.iload_n 3, 1) := by decide +kernel
theorem dL_law_367 : decode cL_law 367 = .ok (.iconst 3, 1) := by decide +kernel
theorem dL_law_368 : decode cL_law 368 = .ok (.iadd, 1) := by decide +kernel
theorem dL_law_369 : decode cL_law 369 = .ok (.iaload, 1) := by decide +kernel
theorem dL_law_370 : decode cL_law 370 = .ok (.aload_n 0, 1) := by decide +kernel
theorem dL_law_371 : decode cL_law 371 = .ok (.iload_n 3, 1) := by decide +kernel
theorem dL_law_372 : decode cL_law 372 = .ok (.iconst 4, 1) := by decide +kernel
theorem dL_law_373 : decode cL_law 373 = .ok (.iadd, 1) := by decide +kernel
theorem dL_law_374 : decode cL_law 374 = .ok (.iaload, 1) := by decide +kernel
theorem dL_law_375 : decode cL_law 375 = .ok (.aload_n 0, 1) := by decide +kernel
theorem dL_law_376 : decode cL_law 376 = .ok (.iload_n 3, 1) := by decide +kernel
theorem dL_law_377 : decode cL_law 377 = .ok (.iconst 5, 1) := by decide +kernel
theorem dL_law_378 : decode cL_law 378 = .ok (.iadd, 1) := by decide +kernel
theorem dL_law_379 : decode cL_law 379 = .ok (.iaload, 1) := by decide +kernel
theorem dL_law_380 : decode cL_law 380 = .ok (.invokevirtual 40, 3) := by decide +kernel
theorem dL_law_383 : decode cL_law 383 = .ok (.if_icmp .eq 720, 3) := by decide +kernel
theorem dL_law_386 : decode cL_law 386 = .ok (.iconst 0, 1) := by decide +kernel
theorem dL_law_387 : decode cL_law 387 = .ok (.ireturn, 1) := by decide +kernel
theorem dL_law_388 : decode cL_law 388 = .ok (.aload_n 1, 1) := by decide +kernel
theorem dL_law_389 : decode cL_law 389 = .ok (.aload_n 0, 1) := by decide +kernel
theorem dL_law_390 : decode cL_law 390 = .ok (.iload_n 3, 1) := by decide +kernel
theorem dL_law_391 : decode cL_law 391 = .ok (.iconst 1, 1) := by decide +kernel
theorem dL_law_392 : decode cL_law 392 = .ok (.iadd, 1) := by decide +kernel
theorem dL_law_393 : decode cL_law 393 = .ok (.iaload, 1) := by decide +kernel
theorem dL_law_394 : decode cL_law 394 = .ok (.aload_n 0, 1) := by decide +kernel
theorem dL_law_395 : decode cL_law 395 = .ok (.iload_n 3, 1) := by decide +kernel
theorem dL_law_396 : decode cL_law 396 = .ok (.iconst 2, 1) := by decide +kernel
theorem dL_law_397 : decode cL_law 397 = .ok (.iadd, 1) := by decide +kernel
theorem dL_law_398 : decode cL_law 398 = .ok (.iaload, 1) := by decide +kernel
theorem dL_law_399 : decode cL_law 399 = .ok (.aload_n 0, 1) := by decide +kernel
theorem dL_law_400 : decode cL_law 400 = .ok (.iload_n 3, 1) := by decide +kernel
theorem dL_law_401 : decode cL_law 401 = .ok (.iconst 3, 1) := by decide +kernel
theorem dL_law_402 : decode cL_law 402 = .ok (.iadd, 1) := by decide +kernel
theorem dL_law_403 : decode cL_law 403 = .ok (.iaload, 1) := by decide +kernel
theorem dL_law_404 : decode cL_law 404 = .ok (.aload_n 0, 1) := by decide +kernel
theorem dL_law_405 : decode cL_law 405 = .ok (.iload_n 3, 1) := by decide +kernel
theorem dL_law_406 : decode cL_law 406 = .ok (.iconst 4, 1) := by decide +kernel
theorem dL_law_407 : decode cL_law 407 = .ok (.iadd, 1) := by decide +kernel
theorem dL_law_408 : decode cL_law 408 = .ok (.iaload, 1) := by decide +kernel
theorem dL_law_409 : decode cL_law 409 = .ok (.aload_n 0, 1) := by decide +kernel
theorem dL_law_410 : decode cL_law 410 = .ok (.iload_n 3, 1) := by decide +kernel
theorem dL_law_411 : decode cL_law 411 = .ok (.iconst 5, 1) := by decide +kernel
theorem dL_law_412 : decode cL_law 412 = .ok (.iadd, 1) := by decide +kernel
theorem dL_law_413 : decode cL_law 413 = .ok (.iaload, 1) := by decide +kernel
theorem dL_law_414 : decode cL_law 414 = .ok (.aload_n 0, 1) := by decide +kernel
theorem dL_law_415 : decode cL_law 415 = .ok (.iload_n 3, 1) := by decide +kernel
theorem dL_law_416 : decode cL_law 416 = .ok (.bipush 6, 2) := by decide +kernel
theorem dL_law_418 : decode cL_law 418 = .ok (.iadd, 1) := by decide +kernel
theorem dL_law_419 : decode cL_law 419 = .ok (.iaload, 1) := by decide +kernel
theorem dL_law_420 : decode cL_law 420 = .ok (.invokevirtual 41, 3) := by decide +kernel
theorem dL_law_423 : decode cL_law 423 = .ok (.aload_n 2, 1) := by decide +kernel
theorem dL_law_424 : decode cL_law 424 = .ok (.aload_n 0, 1) := by decide +kernel
theorem dL_law_425 : decode cL_law 425 = .ok (.iload_n 3, 1) := by decide +kernel
theorem dL_law_426 : decode cL_law 426 = .ok (.iconst 1, 1) := by decide +kernel
theorem dL_law_427 : decode cL_law 427 = .ok (.iadd, 1) := by decide +kernel
theorem dL_law_428 : decode cL_law 428 = .ok (.iaload, 1) := by decide +kernel
theorem dL_law_429 : decode cL_law 429 = .ok (.aload_n 0, 1) := by decide +kernel
theorem dL_law_430 : decode cL_law 430 = .ok (.iload_n 3, 1) := by decide +kernel
theorem dL_law_431 : decode cL_law 431 = .ok (.iconst 2, 1) := by decide +kernel
theorem dL_law_432 : decode cL_law 432 = .ok (.iadd, 1) := by decide +kernel
theorem dL_law_433 : decode cL_law 433 = .ok (.iaload, 1) := by decide +kernel
theorem dL_law_434 : decode cL_law 434 = .ok (.aload_n 0, 1) := by decide +kernel
theorem dL_law_435 : decode cL_law 435 = .ok (.iload_n 3, 1) := by decide +kernel
theorem dL_law_436 : decode cL_law 436 = .ok (.iconst 3, 1) := by decide +kernel
theorem dL_law_437 : decode cL_law 437 = .ok (.iadd, 1) := by decide +kernel
theorem dL_law_438 : decode cL_law 438 = .ok (.iaload, 1) := by decide +kernel
theorem dL_law_439 : decode cL_law 439 = .ok (.aload_n 0, 1) := by decide +kernel
theorem dL_law_440 : decode cL_law 440 = .ok (.iload_n 3, 1) := by decide +kernel
theorem dL_law_441 : decode cL_law 441 = .ok (.iconst 4, 1) := by decide +kernel
theorem dL_law_442 : decode cL_law 442 = .ok (.iadd, 1) := by decide +kernel
theorem dL_law_443 : decode cL_law 443 = .ok (.iaload, 1) := by decide +kernel
theorem dL_law_444 : decode cL_law 444 = .ok (.aload_n 0, 1) := by decide +kernel
theorem dL_law_445 : decode cL_law 445 = .ok (.iload_n 3, 1) := by decide +kernel
theorem dL_law_446 : decode cL_law 446 = .ok (.iconst 5, 1) := by decide +kernel
theorem dL_law_447 : decode cL_law 447 = .ok (.iadd, 1) := by decide +kernel
theorem dL_law_448 : decode cL_law 448 = .ok (.iaload, 1) := by decide +kernel
theorem dL_law_449 : decode cL_law 449 = .ok (.aload_n 0, 1) := by decide +kernel
theorem dL_law_450 : decode cL_law 450 = .ok (.iload_n 3, 1) := by decide +kernel
theorem dL_law_451 : decode cL_law 451 = .ok (.bipush 6, 2) := by decide +kernel
theorem dL_law_453 : decode cL_law 453 = .ok (.iadd, 1) := by decide +kernel
theorem dL_law_454 : decode cL_law 454 = .ok (.iaload, 1) := by decide +kernel
theorem dL_law_455 : decode cL_law 455 = .ok (.invokevirtual 45, 3) := by decide +kernel
theorem dL_law_458 : decode cL_law 458 = .ok (.if_icmp .eq 645, 3) := by decide +kernel
theorem dL_law_461 : decode cL_law 461 = .ok (.iconst 0, 1) := by decide +kernel
theorem dL_law_462 : decode cL_law 462 = .ok (.ireturn, 1) := by decide +kernel
theorem dL_law_463 : decode cL_law 463 = .ok (.aload_n 1, 1) := by decide +kernel
theorem dL_law_464 : decode cL_law 464 = .ok (.aload_n 0, 1) := by decide +kernel
theorem dL_law_465 : decode cL_law 465 = .ok (.iload_n 3, 1) := by decide +kernel
theorem dL_law_466 : decode cL_law 466 = .ok (.iconst 1, 1) := by decide +kernel
