set_option maxRecDepth 20000 in
theorem ggL_law_X3_init : GoodIn wsL_law wsX3_init := goodIn_r _ [8, 9, 10, 11, 12, 13, 14, 15, 16, 17, 18, 19, 20, 21, 22, 23, 24, 25, 26, 27, 28, 29, 30, 31, 32, 33, 34, 35, 36, 37, 38, 39, 40, 41, 42, 43, 44, 45, 46, 47, 48, 49, 50, 51, 52, 53, 54, 350, 351, 352, 353, 354, 355, 356, 357, 379, 380, 381, 382, 383, 384, 385, 386, 387, 388, 389, 390, 391, 392, 393, 394, 395, 396, 397] (by decide +kernel) (by decide +kernel)
set_option maxRecDepth 20000 in
theorem gL_law_X3_init : GoodIn wsL_law (wsX3_init) := ggL_law_X3_init
set_option maxRecDepth 20000 in
theorem ggL_law_X4_init : GoodIn wsL_law wsX4_init := goodIn_r _ [57, 58, 10, 11, 59, 60, 12, 61, 62, 63, 35, 64, 65, 66, 67, 68, 69, 70, 71, 72, 73, 74, 75, 76, 358, 359, 360, 361, 362, 363, 364, 365, 366, 367, 368, 369, 370, 371, 372, 373, 374, 375, 376, 377, 378] (by decide +kernel) (by decide +kernel)
set_option maxRecDepth 20000 in
theorem gL_law_X4_init : GoodIn wsL_law (wsX4_init) := ggL_law_X4_init
set_option maxRecDepth 20000 in
theorem ggL_law_X3_functions : GoodIn wsL_law wsX3_functions := goodIn_r _ [80, 27, 13, 17, 29, 81, 82, 83, 84, 85, 86, 87, 16, 88, 89, 37, 90, 91, 92, 350, 351, 352, 353, 354, 355, 356, 357, 379, 380, 381, 382, 383, 384] (by decide +kernel) (by decide +kernel)
set_option maxRecDepth 20000 in
theorem gL_law_X3_functions : GoodIn wsL_law (wsV RL 13 RX3 yX3_functions wsX3_functions) := goodIn_app (goodIn_of _ (by decide +kernel)) ggL_law_X3_functions
set_option maxRecDepth 20000 in
theorem ggL_law_X4_functions : GoodIn wsL_law wsX4_functions := goodIn_r _ [96, 59, 97, 61, 98, 358, 359, 360, 361, 362, 363, 364, 365, 366, 367, 368, 369, 370, 371, 372, 373, 374, 375, 376, 377, 378] (by decide +kernel) (by decide +kernel)
set_option maxRecDepth 20000 in
theorem gL_law_X4_functions : GoodIn wsL_law (wsV RL 17 RX4 yX4_functions wsX4_functions) := goodIn_app (goodIn_of _ (by decide +kernel)) ggL_law_X4_functions
set_option maxRecDepth 20000 in
theorem ggL_law_X3_size : GoodIn wsL_law wsX3_size := goodIn_r _ [102, 103, 13, 29, 104, 105, 106, 2, 107, 27, 350, 351, 352, 353, 354, 355, 356, 357] (by decide +kernel) (by decide +kernel)
set_option maxRecDepth 20000 in
theorem gL_law_X3_size : GoodIn wsL_law (wsV RL 18 RX3 yX3_size wsX3_size) := goodIn_app (goodIn_of _ (by decide +kernel)) ggL_law_X3_size
set_option maxRecDepth 20000 in
theorem ggL_law_X4_size : GoodIn wsL_law wsX4_size := goodIn_r _ [111, 112, 61, 98, 113, 114, 115, 5, 116, 59, 358, 359, 360, 361, 362, 363, 364, 365, 366, 367, 368, 369, 370, 371, 372, 373, 374, 375, 376, 377, 378] (by decide +kernel) (by decide +kernel)
set_option maxRecDepth 20000 in
theorem gL_law_X4_size : GoodIn wsL_law (wsV RL 22 RX4 yX4_size wsX4_size) := goodIn_app (goodIn_of _ (by decide +kernel)) ggL_law_X4_size
set_option maxRecDepth 20000 in
theorem ggL_law_X3_call : GoodIn wsL_law wsX3_call := goodIn_r _ [120, 121, 122, 123, 17, 124, 29, 104, 105, 106, 2, 107, 27, 125, 126, 127, 16, 128, 89, 33, 34, 36, 129, 130, 131, 132, 133, 134, 135, 136, 137, 37, 350, 351, 352, 353, 354, 355, 356, 357, 379, 380, 381, 382, 383, 384] (by decide +kernel) (by decide +kernel)
set_option maxRecDepth 20000 in
theorem gL_law_X3_call : GoodIn wsL_law (wsV RL 23 RX3 yX3_call wsX3_call) := goodIn_app (goodIn_of _ (by decide +kernel)) ggL_law_X3_call
set_option maxRecDepth 20000 in
theorem ggL_law_X4_call : GoodIn wsL_law wsX4_call := goodIn_r _ [141, 142, 143, 144, 97, 62, 63, 145, 64, 146, 147, 135, 136, 137, 98, 113, 114, 115, 5, 116, 59, 358, 359, 360, 361, 362, 363, 364, 365, 366, 367, 368, 369, 370, 371, 372, 373, 374, 375, 376, 377, 378] (by decide +kernel) (by decide +kernel)
set_option maxRecDepth 20000 in
theorem gL_law_X4_call : GoodIn wsL_law (wsV RL 27 RX4 yX4_call wsX4_call) := goodIn_app (goodIn_of _ (by decide +kernel)) ggL_law_X4_call
set_option maxRecDepth 20000 in
theorem ggL_law_X3_page : GoodIn wsL_law wsX3_page := goodIn_r _ [151, 152, 28, 29, 350, 351, 352, 353, 354, 355, 356, 357] (by decide +kernel) (by decide +kernel)
set_option maxRecDepth 20000 in
theorem gL_law_X3_page : GoodIn wsL_law (wsV RL 28 RX3 yX3_page wsX3_page) := goodIn_app (goodIn_of _ (by decide +kernel)) ggL_law_X3_page
set_option maxRecDepth 20000 in
theorem ggL_law_X4_page : GoodIn wsL_law wsX4_page := goodIn_r _ [156, 157, 60, 98, 358, 359, 360, 361, 362, 363, 364, 365, 366, 367, 368, 369, 370, 371, 372, 373, 374, 375, 376, 377, 378] (by decide +kernel) (by decide +kernel)
set_option maxRecDepth 20000 in
theorem gL_law_X4_page : GoodIn wsL_law (wsV RL 31 RX4 yX4_page wsX4_page) := goodIn_app (goodIn_of _ (by decide +kernel)) ggL_law_X4_page
set_option maxRecDepth 20000 in
theorem ggL_law_X3_heat : GoodIn wsL_law wsX3_heat := goodIn_r _ [161, 17, 121, 104, 105, 106, 2, 107, 27, 162, 163, 164, 16, 165, 37, 350, 351, 352, 353, 354, 355, 356, 357, 379, 380, 381, 382, 383, 384] (by decide +kernel) (by decide +kernel)
set_option maxRecDepth 20000 in
theorem gL_law_X3_heat : GoodIn wsL_law (wsV RL 32 RX3 yX3_heat wsX3_heat) := goodIn_app (goodIn_of _ (by decide +kernel)) ggL_law_X3_heat
set_option maxRecDepth 20000 in
theorem ggL_law_X4_heat : GoodIn wsL_law wsX4_heat := goodIn_r _ [169, 65, 142, 170, 171, 172, 5, 173, 98, 59, 66, 74, 67, 61, 68, 69, 71, 97, 62, 63, 64, 70, 76, 174, 175, 176, 177, 60, 178, 179, 180, 181, 182, 183, 72, 73, 184, 185, 186, 187, 113, 114, 115, 116, 358, 359, 360, 361, 362, 363, 364, 365, 366, 367, 368, 369, 370, 371, 372, 373, 374, 375, 376, 377, 378] (by decide +kernel) (by decide +kernel)
set_option maxRecDepth 20000 in
theorem gL_law_X4_heat : GoodIn wsL_law (wsV RL 36 RX4 yX4_heat wsX4_heat) := goodIn_app (goodIn_of _ (by decide +kernel)) ggL_law_X4_heat
set_option maxRecDepth 20000 in
theorem ggL_law_X3_caller : GoodIn wsL_law wsX3_caller := goodIn_r _ [191, 17, 192, 193, 194, 2, 195, 13, 104, 105, 106, 107, 27, 196, 197, 198, 199, 29, 21, 28, 25, 200, 201, 202, 16, 203, 38, 89, 33, 34, 204, 82, 83, 84, 205, 206, 207, 208, 36, 209, 210, 211, 20, 212, 42, 48, 46, 213, 214, 215, 216, 43, 44, 45, 47, 217, 163, 164, 165, 37, 218, 219, 220, 221, 222, 223, 224, 225, 226, 227, 228, 229, 230, 231, 136, 232, 233, 234, 235, 236, 237, 49, 238, 239, 240, 241, 242, 243, 244, 245, 246, 247, 248, 24, 249, 250, 251, 54, 252, 253, 91, 92, 254, 255, 256, 257, 53, 258, 259, 260, 261, 26, 262, 263, 264, 350, 351, 352, 353, 354, 355, 356, 357, 379, 380, 381, 382, 383, 384, 385, 386, 387, 388, 389, 390, 391, 392, 393, 394, 395, 396, 397] (by decide +kernel) (by decide +kernel)
set_option maxRecDepth 20000 in
theorem gL_law_X3_caller : GoodIn wsL_law (wsV RL 37 RX3 yX3_caller wsX3_caller) := goodIn_app (goodIn_of _ (by decide +kernel)) ggL_law_X3_caller
set_option maxRecDepth 20000 in
theorem ggL_law_X4_caller : GoodIn wsL_law wsX4_caller := goodIn_r _ [268, 61, 66, 170, 171, 172, 5, 173, 98, 59, 65, 74, 67, 68, 69, 71, 97, 62, 63, 64, 70, 76, 174, 175, 176, 177, 60, 178, 179, 180, 181, 182, 183, 72, 73, 184, 185, 186, 187, 113, 114, 115, 116, 358, 359, 360, 361, 362, 363, 364, 365, 366, 367, 368, 369, 370, 371, 372, 373, 374, 375, 376, 377, 378] (by decide +kernel) (by decide +kernel)
set_option maxRecDepth 20000 in
theorem gL_law_X4_caller : GoodIn wsL_law (wsV RL 41 RX4 yX4_caller wsX4_caller) := goodIn_app (goodIn_of _ (by decide +kernel)) ggL_law_X4_caller
set_option maxRecDepth 20000 in
theorem ggL_law_X3_length : GoodIn wsL_law wsX3_length := goodIn_r _ [272, 25, 196, 197, 198, 2, 199, 29, 17, 13, 21, 28, 200, 201, 202, 16, 203, 38, 89, 33, 34, 204, 82, 83, 84, 205, 206, 207, 208, 36, 209, 210, 211, 20, 212, 42, 48, 46, 213, 214, 215, 216, 43, 44, 45, 47, 217, 163, 164, 165, 37, 218, 219, 220, 221, 222, 223, 224, 225, 226, 227, 228, 229, 230, 231, 136, 232, 233, 234, 235, 236, 237, 49, 238, 239, 240, 241, 242, 243, 244, 245, 246, 247, 248, 24, 249, 250, 251, 54, 252, 253, 91, 92, 254, 255, 256, 257, 53, 258, 259, 260, 261, 26, 27, 262, 263, 273, 274, 275, 276, 350, 351, 352, 353, 354, 355, 356, 357, 379, 380, 381, 382, 383, 384, 385, 386, 387, 388, 389, 390, 391, 392, 393, 394, 395, 396, 397] (by decide +kernel) (by decide +kernel)
set_option maxRecDepth 20000 in
theorem gL_law_X3_length : GoodIn wsL_law (wsV RL 42 RX3 yX3_length wsX3_length) := goodIn_app (goodIn_of _ (by decide +kernel)) ggL_law_X3_length
set_option maxRecDepth 20000 in
theorem ggL_law_X4_length : GoodIn wsL_law wsX4_length := goodIn_r _ [280, 182, 170, 171, 172, 5, 173, 98, 59, 65, 66, 74, 67, 61, 68, 69, 71, 97, 62, 63, 64, 70, 76, 174, 175, 176, 177, 60, 178, 179, 180, 181, 183, 72, 73, 184, 185, 186, 187, 358, 359, 360, 361, 362, 363, 364, 365, 366, 367, 368, 369, 370, 371, 372, 373, 374, 375, 376, 377, 378] (by decide +kernel) (by decide +kernel)
set_option maxRecDepth 20000 in
theorem gL_law_X4_length : GoodIn wsL_law (wsV RL 46 RX4 yX4_length wsX4_length) := goodIn_app (goodIn_of _ (by decide +kernel)) ggL_law_X4_length
set_option maxRecDepth 20000 in
theorem ggL_law_X3_row : GoodIn wsL_law wsX3_row := goodIn_r _ [284, 25, 196, 197, 198, 2, 199, 29, 17, 13, 21, 28, 200, 201, 202, 16, 203, 38, 89, 33, 34, 204, 82, 83, 84, 205, 206, 207, 208, 36, 209, 210, 211, 20, 212, 42, 48, 46, 213, 214, 215, 216, 43, 44, 45, 47, 217, 163, 164, 165, 37, 218, 219, 220, 221, 222, 223, 224, 225, 226, 227, 228, 229, 230, 231, 136, 232, 233, 234, 235, 236, 237, 49, 238, 239, 240, 241, 242, 243, 244, 245, 246, 247, 248, 24, 249, 250, 251, 54, 252, 253, 91, 92, 254, 255, 256, 257, 53, 258, 259, 260, 261, 26, 27, 262, 263, 285, 286, 287, 288, 350, 351, 352, 353, 354, 355, 356, 357, 379, 380, 381, 382, 383, 384, 385, 386, 387, 388, 389, 390, 391, 392, 393, 394, 395, 396, 397] (by decide +kernel) (by decide +kernel)
set_option maxRecDepth 20000 in
theorem gL_law_X3_row : GoodIn wsL_law (wsV RL 47 RX3 yX3_row wsX3_row) := goodIn_app (goodIn_of _ (by decide +kernel)) ggL_law_X3_row
set_option maxRecDepth 20000 in
theorem ggL_law_X4_row : GoodIn wsL_law wsX4_row := goodIn_r _ [292, 182, 72, 170, 171, 172, 5, 173, 98, 59, 65, 66, 74, 67, 61, 68, 69, 71, 97, 62, 63, 64, 70, 76, 174, 175, 176, 177, 60, 178, 179, 180, 181, 183, 73, 184, 185, 186, 187, 358, 359, 360, 361, 362, 363, 364, 365, 366, 367, 368, 369, 370, 371, 372, 373, 374, 375, 376, 377, 378] (by decide +kernel) (by decide +kernel)
set_option maxRecDepth 20000 in
theorem gL_law_X4_row : GoodIn wsL_law (wsV RL 50 RX4 yX4_row wsX4_row) := goodIn_app (goodIn_of _ (by decide +kernel)) ggL_law_X4_row
set_option maxRecDepth 20000 in
theorem ggL_law_X3_begin : GoodIn wsL_law wsX3_begin := goodIn_r _ [296, 121, 25, 192, 193, 194, 2, 195, 13, 104, 105, 106, 107, 27, 196, 197, 198, 199, 29, 17, 21, 28, 200, 201, 202, 16, 203, 38, 89, 33, 34, 204, 82, 83, 84, 205, 206, 207, 208, 36, 209, 210, 211, 20, 212, 42, 48, 46, 213, 214, 215, 216, 43, 44, 45, 47, 217, 163, 164, 165, 37, 218, 219, 220, 221, 222, 223, 224, 225, 226, 227, 228, 229, 230, 231, 136, 232, 233, 234, 235, 236, 237, 49, 238, 239, 240, 241, 242, 243, 244, 245, 246, 247, 248, 24, 249, 250, 251, 54, 252, 253, 91, 92, 254, 255, 256, 257, 53, 258, 259, 260, 261, 26, 262, 263, 297, 298, 299, 300, 350, 351, 352, 353, 354, 355, 356, 357, 379, 380, 381, 382, 383, 384, 385, 386, 387, 388, 389, 390, 391, 392, 393, 394, 395, 396, 397] (by decide +kernel) (by decide +kernel)
set_option maxRecDepth 20000 in
theorem gL_law_X3_begin : GoodIn wsL_law (wsV RL 51 RX3 yX3_begin wsX3_begin) := goodIn_app (goodIn_of _ (by decide +kernel)) ggL_law_X3_begin
set_option maxRecDepth 20000 in
theorem ggL_law_X4_begin : GoodIn wsL_law wsX4_begin := goodIn_r _ [304, 61, 73, 142, 170, 171, 172, 5, 173, 98, 59, 65, 66, 74, 67, 68, 69, 71, 97, 62, 63, 64, 70, 76, 174, 175, 176, 177, 60, 178, 179, 180, 181, 182, 183, 72, 184, 185, 186, 187, 113, 114, 115, 116, 358, 359, 360, 361, 362, 363, 364, 365, 366, 367, 368, 369, 370, 371, 372, 373, 374, 375, 376, 377, 378] (by decide +kernel) (by decide +kernel)
set_option maxRecDepth 20000 in
theorem gL_law_X4_begin : GoodIn wsL_law (wsV RL 54 RX4 yX4_begin wsX4_begin) := goodIn_app (goodIn_of _ (by decide +kernel)) ggL_law_X4_begin
set_option maxRecDepth 20000 in
theorem ggL_law_X3_clusters : GoodIn wsL_law wsX3_clusters := goodIn_r _ [308, 21, 196, 197, 198, 2, 199, 29, 17, 13, 28, 25, 200, 201, 202, 16, 203, 38, 89, 33, 34, 204, 82, 83, 84, 205, 206, 207, 208, 36, 209, 210, 211, 20, 212, 42, 48, 46, 213, 214, 215, 216, 43, 44, 45, 47, 217, 163, 164, 165, 37, 218, 219, 220, 221, 222, 223, 224, 225, 226, 227, 228, 229, 230, 231, 136, 232, 233, 234, 235, 236, 237, 49, 238, 239, 240, 241, 242, 243, 244, 245, 246, 247, 248, 24, 249, 250, 251, 54, 252, 253, 91, 92, 254, 255, 256, 257, 53, 258, 259, 260, 261, 26, 27, 262, 263, 309, 310, 311, 312, 350, 351, 352, 353, 354, 355, 356, 357, 379, 380, 381, 382, 383, 384, 385, 386, 387, 388, 389, 390, 391, 392, 393, 394, 395, 396, 397] (by decide +kernel) (by decide +kernel)
set_option maxRecDepth 20000 in
theorem gL_law_X3_clusters : GoodIn wsL_law (wsV RL 55 RX3 yX3_clusters wsX3_clusters) := goodIn_app (goodIn_of _ (by decide +kernel)) ggL_law_X3_clusters
set_option maxRecDepth 20000 in
theorem ggL_law_X4_clusters : GoodIn wsL_law wsX4_clusters := goodIn_r _ [316, 183, 170, 171, 172, 5, 173, 98, 59, 65, 66, 74, 67, 61, 68, 69, 71, 97, 62, 63, 64, 70, 76, 174, 175, 176, 177, 60, 178, 179, 180, 181, 182, 72, 73, 184, 185, 186, 187, 358, 359, 360, 361, 362, 363, 364, 365, 366, 367, 368, 369, 370, 371, 372, 373, 374, 375, 376, 377, 378] (by decide +kernel) (by decide +kernel)
set_option maxRecDepth 20000 in
theorem gL_law_X4_clusters : GoodIn wsL_law (wsV RL 58 RX4 yX4_clusters wsX4_clusters) := goodIn_app (goodIn_of _ (by decide +kernel)) ggL_law_X4_clusters
set_option maxRecDepth 20000 in
theorem ggL_law_X3_cluster : GoodIn wsL_law wsX3_cluster := goodIn_r _ [320, 21, 192, 193, 194, 2, 195, 13, 104, 105, 106, 107, 27, 196, 197, 198, 199, 29, 17, 28, 25, 200, 201, 202, 16, 203, 38, 89, 33, 34, 204, 82, 83, 84, 205, 206, 207, 208, 36, 209, 210, 211, 20, 212, 42, 48, 46, 213, 214, 215, 216, 43, 44, 45, 47, 217, 163, 164, 165, 37, 218, 219, 220, 221, 222, 223, 224, 225, 226, 227, 228, 229, 230, 231, 136, 232, 233, 234, 235, 236, 237, 49, 238, 239, 240, 241, 242, 243, 244, 245, 246, 247, 248, 24, 249, 250, 251, 54, 252, 253, 91, 92, 254, 255, 256, 257, 53, 258, 259, 260, 261, 26, 262, 263, 321, 322, 323, 324, 350, 351, 352, 353, 354, 355, 356, 357, 379, 380, 381, 382, 383, 384, 385, 386, 387, 388, 389, 390, 391, 392, 393, 394, 395, 396, 397] (by decide +kernel) (by decide +kernel)
set_option maxRecDepth 20000 in
theorem gL_law_X3_cluster : GoodIn wsL_law (wsV RL 59 RX3 yX3_cluster wsX3_cluster) := goodIn_app (goodIn_of _ (by decide +kernel)) ggL_law_X3_cluster
set_option maxRecDepth 20000 in
theorem ggL_law_X4_cluster : GoodIn wsL_law wsX4_cluster := goodIn_r _ [328, 67, 170, 171, 172, 5, 173, 98, 59, 65, 66, 74, 61, 68, 69, 71, 97, 62, 63, 64, 70, 76, 174, 175, 176, 177, 60, 178, 179, 180, 181, 182, 183, 72, 73, 184, 185, 186, 187, 113, 114, 115, 116, 358, 359, 360, 361, 362, 363, 364, 365, 366, 367, 368, 369, 370, 371, 372, 373, 374, 375, 376, 377, 378] (by decide +kernel) (by decide +kernel)
set_option maxRecDepth 20000 in
theorem gL_law_X4_cluster : GoodIn wsL_law (wsV RL 62 RX4 yX4_cluster wsX4_cluster) := goodIn_app (goodIn_of _ (by decide +kernel)) ggL_law_X4_cluster
set_option maxRecDepth 20000 in
theorem ggL_law_X3_cost : GoodIn wsL_law wsX3_cost := goodIn_r _ [332, 17, 25, 26, 121, 196, 197, 198, 2, 199, 29, 13, 21, 28, 200, 201, 202, 16, 203, 38, 89, 33, 34, 204, 82, 83, 84, 205, 206, 207, 208, 36, 209, 210, 211, 20, 212, 42, 48, 46, 213, 214, 215, 216, 43, 44, 45, 47, 217, 163, 164, 165, 37, 218, 219, 220, 221, 222, 223, 224, 225, 226, 227, 228, 229, 230, 231, 136, 232, 233, 234, 235, 236, 237, 49, 238, 239, 240, 241, 242, 243, 244, 245, 246, 247, 248, 24, 249, 250, 251, 54, 252, 253, 91, 92, 254, 255, 256, 257, 53, 258, 259, 260, 261, 27, 262, 263, 333, 334, 335, 336, 337, 338, 339, 340, 341, 298, 299, 300, 350, 351, 352, 353, 354, 355, 356, 357, 379, 380, 381, 382, 383, 384, 385, 386, 387, 388, 389, 390, 391, 392, 393, 394, 395, 396, 397] (by decide +kernel) (by decide +kernel)
set_option maxRecDepth 20000 in
theorem gL_law_X3_cost : GoodIn wsL_law (wsV RL 63 RX3 yX3_cost wsX3_cost) := goodIn_app (goodIn_of _ (by decide +kernel)) ggL_law_X3_cost
set_option maxRecDepth 20000 in
theorem ggL_law_X4_cost : GoodIn wsL_law wsX4_cost := goodIn_r _ [345, 142, 97, 62, 63, 61, 73, 64, 170, 171, 172, 5, 173, 98, 59, 65, 66, 74, 67, 68, 69, 71, 70, 76, 174, 175, 176, 177, 60, 178, 179, 180, 181, 182, 183, 72, 184, 185, 186, 187, 346, 347, 348, 349, 358, 359, 360, 361, 362, 363, 364, 365, 366, 367, 368, 369, 370, 371, 372, 373, 374, 375, 376, 377, 378] (by decide +kernel) (by decide +kernel)
set_option maxRecDepth 20000 in
theorem gL_law_X4_cost : GoodIn wsL_law (wsV RL 66 RX4 yX4_cost wsX4_cost) := goodIn_app (goodIn_of _ (by decide +kernel)) ggL_law_X4_cost
