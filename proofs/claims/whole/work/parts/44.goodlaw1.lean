set_option maxRecDepth 20000 in
theorem ggL_law_X1_init : GoodIn wsL_law wsX1_init := goodIn_r _ [10, 11, 12, 13, 14, 15, 16, 17, 18, 19, 6, 20, 21, 22, 23, 24, 25, 26, 27, 28, 29, 30, 374, 375, 376, 358, 359, 360, 361, 362, 363, 364] (by decide +kernel) (by decide +kernel)
set_option maxRecDepth 20000 in
theorem gL_law_X1_init : GoodIn wsL_law (wsX1_init) := ggL_law_X1_init
set_option maxRecDepth 20000 in
theorem ggL_law_X2_init : GoodIn wsL_law wsX2_init := goodIn_r _ [33, 34, 12, 13, 21, 35, 36, 37, 6, 38, 39, 40, 41, 365, 366, 367, 368, 369, 370, 371, 372, 373] (by decide +kernel) (by decide +kernel)
set_option maxRecDepth 20000 in
theorem gL_law_X2_init : GoodIn wsL_law (wsX2_init) := ggL_law_X2_init
set_option maxRecDepth 20000 in
theorem ggL_law_L_hang : GoodIn wsL_law wsL_hang := goodIn_ca (goodIn_r _ [45, 46, 47, 48, 49, 2, 50, 51, 52, 18, 17, 53, 54, 55, 56, 57, 58, 59, 60, 61, 62, 19, 63, 64, 65, 66, 67, 16, 68, 69, 29, 30, 70, 71, 72, 73, 74, 28, 75, 76, 77, 78, 358, 359, 360, 361, 362, 363, 364, 374, 375, 376] (by decide +kernel) (by decide +kernel)) (goodIn_sub (fun _ h => List.mem_append_left _ (List.mem_append_right _ h)) (by decide +kernel))
set_option maxRecDepth 20000 in
theorem gL_law_L_hang : GoodIn wsL_law (va_wsS RL 58 yL_hang wsL_hang) := goodIn_app (goodIn_of _ (by decide +kernel)) ggL_law_L_hang
set_option maxRecDepth 20000 in
theorem ggL_law_X2_hang : GoodIn wsL_law wsX2_hang := goodIn_r _ [82, 35, 36, 37, 38, 83, 84, 5, 85, 86, 87, 88, 89, 90, 91, 92, 93, 94, 95, 96, 97, 98, 99, 100, 101, 102, 103, 104, 105, 106, 107, 365, 366, 367, 368, 369, 370, 371, 372, 373] (by decide +kernel) (by decide +kernel)
set_option maxRecDepth 20000 in
theorem gL_law_X2_hang : GoodIn wsL_law (wsV RL 63 RX2 yX2_hang wsX2_hang) := goodIn_app (goodIn_of _ (by decide +kernel)) ggL_law_X2_hang
set_option maxRecDepth 20000 in
theorem ggL_law_X2_thrown : GoodIn wsL_law wsX2_thrown := goodIn_r _ [111, 93, 365, 366, 367, 368, 369, 370, 371, 372, 373] (by decide +kernel) (by decide +kernel)
set_option maxRecDepth 20000 in
theorem gL_law_X2_thrown : GoodIn wsL_law (wsV RL 64 RX2 yX2_thrown wsX2_thrown) := goodIn_app (goodIn_of _ (by decide +kernel)) ggL_law_X2_thrown
set_option maxRecDepth 20000 in
theorem ggL_law_L_share : GoodIn wsL_law wsL_share := goodIn_ca (goodIn_r _ [114, 46, 115, 116, 117, 2, 118, 18, 53, 54, 55, 51, 52, 358, 359, 360, 361, 362, 363, 364, 374, 375, 376] (by decide +kernel) (by decide +kernel)) (goodIn_sub (fun _ h => List.mem_append_left _ (List.mem_append_right _ h)) (by decide +kernel))
set_option maxRecDepth 20000 in
theorem gL_law_L_share : GoodIn wsL_law (va_wsS RL 68 yL_share wsL_share) := goodIn_app (goodIn_of _ (by decide +kernel)) ggL_law_L_share
set_option maxRecDepth 20000 in
theorem ggL_law_X2_share : GoodIn wsL_law wsX2_share := goodIn_r _ [122, 35, 83, 84, 5, 85, 86, 87, 88, 89, 90, 91, 92, 93, 123, 124, 125, 126, 36, 365, 366, 367, 368, 369, 370, 371, 372, 373] (by decide +kernel) (by decide +kernel)
set_option maxRecDepth 20000 in
theorem gL_law_X2_share : GoodIn wsL_law (wsV RL 71 RX2 yX2_share wsX2_share) := goodIn_app (goodIn_of _ (by decide +kernel)) ggL_law_X2_share
set_option maxRecDepth 20000 in
theorem ggL_law_X1_hire : GoodIn wsL_law wsX1_hire := goodIn_r _ [130, 24, 22, 358, 359, 360, 361, 362, 363, 364] (by decide +kernel) (by decide +kernel)
set_option maxRecDepth 20000 in
theorem gL_law_X1_hire : GoodIn wsL_law (wsV RL 72 RX1 yX1_hire wsX1_hire) := goodIn_app (goodIn_of _ (by decide +kernel)) ggL_law_X1_hire
set_option maxRecDepth 20000 in
theorem ggL_law_X2_hire : GoodIn wsL_law wsX2_hire := goodIn_r _ [134, 93, 135, 40, 41, 86, 87, 5, 88, 365, 366, 367, 368, 369, 370, 371, 372, 373] (by decide +kernel) (by decide +kernel)
set_option maxRecDepth 20000 in
theorem gL_law_X2_hire : GoodIn wsL_law (wsV RL 76 RX2 yX2_hire wsX2_hire) := goodIn_app (goodIn_of _ (by decide +kernel)) ggL_law_X2_hire
set_option maxRecDepth 20000 in
theorem ggL_law_L_put : GoodIn wsL_law wsL_put := goodIn_ca (goodIn_ca (goodIn_r _ [138, 46, 139, 140, 141, 142, 2, 143, 18, 53, 54, 55, 51, 52, 144, 145, 146, 147, 148, 149, 150, 151, 152, 153, 24, 154, 16, 155, 156, 29, 76, 77, 78, 157, 158, 159, 30, 160, 161, 162, 163, 22, 358, 359, 360, 361, 362, 363, 364, 374, 375, 376] (by decide +kernel) (by decide +kernel)) (goodIn_sub (fun _ h => List.mem_append_left _ (List.mem_append_right _ h)) (by decide +kernel))) (goodIn_sub (fun _ h => List.mem_append_right _ h) (by decide +kernel))
set_option maxRecDepth 20000 in
theorem gL_law_L_put : GoodIn wsL_law (va_wsS RL 77 yL_put wsL_put) := goodIn_app (goodIn_of _ (by decide +kernel)) ggL_law_L_put
set_option maxRecDepth 20000 in
theorem ggL_law_X2_put : GoodIn wsL_law wsX2_put := goodIn_r _ [167, 40, 38, 35, 83, 84, 5, 85, 86, 87, 88, 168, 169, 170, 171, 135, 89, 90, 91, 92, 93, 123, 124, 125, 126, 36, 105, 106, 107, 172, 173, 174, 175, 37, 94, 95, 96, 176, 177, 178, 365, 366, 367, 368, 369, 370, 371, 372, 373] (by decide +kernel) (by decide +kernel)
set_option maxRecDepth 20000 in
theorem gL_law_X2_put : GoodIn wsL_law (wsV RL 79 RX2 yX2_put wsX2_put) := goodIn_app (goodIn_of _ (by decide +kernel)) ggL_law_X2_put
set_option maxRecDepth 20000 in
theorem ggL_law_L_note : GoodIn wsL_law wsL_note := goodIn_ca (goodIn_r _ [181, 46, 182, 183, 184, 2, 185, 18, 53, 54, 55, 51, 52, 154, 16, 155, 156, 29, 157, 158, 159, 30, 358, 359, 360, 361, 362, 363, 364, 374, 375, 376] (by decide +kernel) (by decide +kernel)) (goodIn_sub (fun _ h => List.mem_append_left _ (List.mem_append_right _ h)) (by decide +kernel))
set_option maxRecDepth 20000 in
theorem gL_law_L_note : GoodIn wsL_law (va_wsS RL 82 yL_note wsL_note) := goodIn_app (goodIn_of _ (by decide +kernel)) ggL_law_L_note
set_option maxRecDepth 20000 in
theorem ggL_law_X2_note : GoodIn wsL_law wsX2_note := goodIn_r _ [189, 38, 35, 83, 84, 5, 85, 86, 87, 88, 89, 90, 91, 92, 93, 123, 124, 125, 126, 36, 172, 173, 174, 175, 37, 94, 95, 96, 365, 366, 367, 368, 369, 370, 371, 372, 373] (by decide +kernel) (by decide +kernel)
set_option maxRecDepth 20000 in
theorem gL_law_X2_note : GoodIn wsL_law (wsV RL 85 RX2 yX2_note wsX2_note) := goodIn_app (goodIn_of _ (by decide +kernel)) ggL_law_X2_note
set_option maxRecDepth 20000 in
theorem ggL_law_L_copy : GoodIn wsL_law wsL_copy := goodIn_ca (goodIn_r _ [192, 46, 193, 194, 195, 2, 196, 18, 53, 54, 55, 51, 52, 197, 198, 199, 200, 20, 201, 202, 203, 204, 154, 16, 155, 156, 29, 205, 206, 207, 208, 209, 210, 211, 212, 213, 75, 76, 77, 78, 214, 215, 216, 30, 160, 161, 162, 163, 22, 150, 151, 152, 153, 24, 358, 359, 360, 361, 362, 363, 364, 374, 375, 376] (by decide +kernel) (by decide +kernel)) (goodIn_sub (fun _ h => List.mem_append_left _ (List.mem_append_right _ h)) (by decide +kernel))
set_option maxRecDepth 20000 in
theorem gL_law_L_copy : GoodIn wsL_law (va_wsS RL 86 yL_copy wsL_copy) := goodIn_app (goodIn_of _ (by decide +kernel)) ggL_law_L_copy
set_option maxRecDepth 20000 in
theorem ggL_law_X2_copy : GoodIn wsL_law wsX2_copy := goodIn_r _ [220, 83, 84, 5, 85, 86, 87, 88, 89, 90, 91, 92, 93, 221, 222, 223, 224, 35, 39, 38, 225, 226, 227, 228, 123, 124, 125, 126, 36, 94, 95, 96, 229, 230, 231, 105, 106, 107, 172, 173, 174, 175, 37, 232, 233, 234, 235, 40, 176, 177, 178, 365, 366, 367, 368, 369, 370, 371, 372, 373] (by decide +kernel) (by decide +kernel)
set_option maxRecDepth 20000 in
theorem gL_law_X2_copy : GoodIn wsL_law (wsV RL 89 RX2 yX2_copy wsX2_copy) := goodIn_app (goodIn_of _ (by decide +kernel)) ggL_law_X2_copy
