set_option maxRecDepth 20000 in
theorem ggL_law_L_slide : GoodIn wsL_law wsL_slide := goodIn_ca (goodIn_r _ [238, 46, 239, 240, 241, 2, 242, 18, 53, 54, 55, 51, 52, 154, 16, 155, 156, 29, 208, 209, 210, 243, 244, 245, 201, 202, 203, 204, 71, 72, 73, 74, 28, 75, 76, 77, 78, 246, 247, 248, 358, 359, 360, 361, 362, 363, 364, 374, 375, 376] (by decide +kernel) (by decide +kernel)) (goodIn_sub (fun _ h => List.mem_append_left _ (List.mem_append_right _ h)) (by decide +kernel))
set_option maxRecDepth 20000 in
theorem gL_law_L_slide : GoodIn wsL_law (va_wsS RL 90 yL_slide wsL_slide) := goodIn_app (goodIn_of _ (by decide +kernel)) ggL_law_L_slide
set_option maxRecDepth 20000 in
theorem ggL_law_X2_slide : GoodIn wsL_law wsX2_slide := goodIn_r _ [252, 35, 39, 38, 36, 83, 84, 5, 85, 86, 87, 88, 89, 90, 91, 92, 93, 253, 254, 255, 256, 123, 124, 125, 126, 94, 95, 96, 172, 173, 174, 175, 37, 101, 102, 103, 104, 105, 106, 107, 365, 366, 367, 368, 369, 370, 371, 372, 373] (by decide +kernel) (by decide +kernel)
set_option maxRecDepth 20000 in
theorem gL_law_X2_slide : GoodIn wsL_law (wsV RL 92 RX2 yX2_slide wsX2_slide) := goodIn_app (goodIn_of _ (by decide +kernel)) ggL_law_X2_slide
set_option maxRecDepth 20000 in
theorem ggL_law_L_turn : GoodIn wsL_law wsL_turn := goodIn_ca (goodIn_r _ [259, 46, 260, 261, 262, 2, 263, 18, 20, 201, 202, 203, 204, 53, 54, 55, 51, 52, 154, 16, 155, 156, 29, 208, 209, 210, 358, 359, 360, 361, 362, 363, 364, 374, 375, 376] (by decide +kernel) (by decide +kernel)) (goodIn_sub (fun _ h => List.mem_append_left _ (List.mem_append_right _ h)) (by decide +kernel))
set_option maxRecDepth 20000 in
theorem gL_law_L_turn : GoodIn wsL_law (va_wsS RL 93 yL_turn wsL_turn) := goodIn_app (goodIn_of _ (by decide +kernel)) ggL_law_L_turn
set_option maxRecDepth 20000 in
theorem ggL_law_X2_turn : GoodIn wsL_law wsX2_turn := goodIn_r _ [267, 35, 39, 38, 83, 84, 5, 85, 86, 87, 88, 89, 90, 91, 92, 93, 253, 254, 255, 256, 123, 124, 125, 126, 36, 94, 95, 96, 172, 173, 174, 175, 37, 365, 366, 367, 368, 369, 370, 371, 372, 373] (by decide +kernel) (by decide +kernel)
set_option maxRecDepth 20000 in
theorem gL_law_X2_turn : GoodIn wsL_law (wsV RL 95 RX2 yX2_turn wsX2_turn) := goodIn_app (goodIn_of _ (by decide +kernel)) ggL_law_X2_turn
set_option maxRecDepth 20000 in
theorem ggL_law_L_join : GoodIn wsL_law wsL_join := goodIn_ca (goodIn_r _ [270, 46, 271, 272, 273, 2, 274, 18, 53, 54, 55, 51, 52, 197, 198, 199, 200, 20, 201, 202, 203, 204, 154, 16, 155, 156, 29, 205, 206, 207, 208, 209, 210, 211, 212, 213, 75, 76, 77, 78, 214, 215, 216, 30, 160, 161, 162, 163, 22, 150, 151, 152, 153, 24, 358, 359, 360, 361, 362, 363, 364, 374, 375, 376] (by decide +kernel) (by decide +kernel)) (goodIn_sub (fun _ h => List.mem_append_left _ (List.mem_append_right _ h)) (by decide +kernel))
set_option maxRecDepth 20000 in
theorem gL_law_L_join : GoodIn wsL_law (va_wsS RL 96 yL_join wsL_join) := goodIn_app (goodIn_of _ (by decide +kernel)) ggL_law_L_join
set_option maxRecDepth 20000 in
theorem ggL_law_X2_join : GoodIn wsL_law wsX2_join := goodIn_r _ [278, 83, 84, 5, 85, 86, 87, 88, 89, 90, 91, 92, 93, 172, 173, 174, 175, 37, 35, 123, 124, 125, 126, 36, 94, 95, 96, 221, 222, 223, 224, 39, 38, 225, 226, 227, 228, 229, 230, 231, 105, 106, 107, 232, 233, 234, 235, 40, 176, 177, 178, 365, 366, 367, 368, 369, 370, 371, 372, 373] (by decide +kernel) (by decide +kernel)
set_option maxRecDepth 20000 in
theorem gL_law_X2_join : GoodIn wsL_law (wsV RL 98 RX2 yX2_join wsX2_join) := goodIn_app (goodIn_of _ (by decide +kernel)) ggL_law_X2_join
set_option maxRecDepth 20000 in
theorem ggL_law_L_pay : GoodIn wsL_law wsL_pay := goodIn_ca (goodIn_r _ [281, 46, 282, 283, 284, 2, 285, 18, 53, 54, 55, 51, 52, 286, 287, 288, 154, 16, 155, 156, 29, 211, 212, 213, 75, 76, 77, 78, 157, 158, 159, 30, 289, 290, 291, 292, 23, 293, 22, 150, 151, 152, 153, 24, 358, 359, 360, 361, 362, 363, 364, 374, 375, 376] (by decide +kernel) (by decide +kernel)) (goodIn_sub (fun _ h => List.mem_append_left _ (List.mem_append_right _ h)) (by decide +kernel))
set_option maxRecDepth 20000 in
theorem gL_law_L_pay : GoodIn wsL_law (va_wsS RL 99 yL_pay wsL_pay) := goodIn_app (goodIn_of _ (by decide +kernel)) ggL_law_L_pay
set_option maxRecDepth 20000 in
theorem ggL_law_X2_pay : GoodIn wsL_law wsX2_pay := goodIn_r _ [297, 35, 38, 40, 41, 83, 84, 5, 85, 86, 87, 88, 89, 90, 91, 92, 93, 123, 124, 125, 126, 36, 105, 106, 107, 298, 299, 300, 301, 172, 173, 174, 175, 37, 94, 95, 96, 302, 303, 304, 365, 366, 367, 368, 369, 370, 371, 372, 373] (by decide +kernel) (by decide +kernel)
set_option maxRecDepth 20000 in
theorem gL_law_X2_pay : GoodIn wsL_law (wsV RL 101 RX2 yX2_pay wsX2_pay) := goodIn_app (goodIn_of _ (by decide +kernel)) ggL_law_X2_pay
set_option maxRecDepth 20000 in
theorem ggL_law_L_look : GoodIn wsL_law wsL_look := goodIn_ca (goodIn_r _ [307, 46, 308, 309, 310, 2, 311, 18, 53, 54, 55, 51, 52, 208, 16, 209, 210, 29, 154, 155, 156, 63, 64, 65, 66, 358, 359, 360, 361, 362, 363, 364, 374, 375, 376] (by decide +kernel) (by decide +kernel)) (goodIn_sub (fun _ h => List.mem_append_left _ (List.mem_append_right _ h)) (by decide +kernel))
set_option maxRecDepth 20000 in
theorem gL_law_L_look : GoodIn wsL_law (va_wsS RL 102 yL_look wsL_look) := goodIn_app (goodIn_of _ (by decide +kernel)) ggL_law_L_look
set_option maxRecDepth 20000 in
theorem ggL_law_X2_look : GoodIn wsL_law wsX2_look := goodIn_r _ [315, 35, 83, 84, 5, 85, 86, 87, 88, 89, 90, 91, 92, 93, 123, 124, 125, 126, 36, 94, 95, 96, 172, 173, 174, 175, 37, 365, 366, 367, 368, 369, 370, 371, 372, 373] (by decide +kernel) (by decide +kernel)
set_option maxRecDepth 20000 in
theorem gL_law_X2_look : GoodIn wsL_law (wsV RL 104 RX2 yX2_look wsX2_look) := goodIn_app (goodIn_of _ (by decide +kernel)) ggL_law_X2_look
set_option maxRecDepth 20000 in
theorem ggL_law_L_at : GoodIn wsL_law wsL_at := goodIn_ca (goodIn_ca (goodIn_r _ [318, 46, 139, 319, 320, 321, 2, 322, 148, 149, 18, 53, 54, 55, 51, 52, 208, 16, 209, 210, 29, 157, 158, 159, 30, 358, 359, 360, 361, 362, 363, 364, 374, 375, 376] (by decide +kernel) (by decide +kernel)) (goodIn_sub (fun _ h => List.mem_append_right _ h) (by decide +kernel))) (goodIn_sub (fun _ h => List.mem_append_left _ (List.mem_append_right _ h)) (by decide +kernel))
set_option maxRecDepth 20000 in
theorem gL_law_L_at : GoodIn wsL_law (va_wsS RL 105 yL_at wsL_at) := goodIn_app (goodIn_of _ (by decide +kernel)) ggL_law_L_at
set_option maxRecDepth 20000 in
theorem ggL_law_X2_at : GoodIn wsL_law wsX2_at := goodIn_r _ [326, 38, 35, 83, 84, 5, 85, 86, 87, 88, 123, 124, 125, 126, 36, 94, 95, 96, 172, 173, 174, 175, 37, 89, 90, 91, 92, 93, 365, 366, 367, 368, 369, 370, 371, 372, 373] (by decide +kernel) (by decide +kernel)
set_option maxRecDepth 20000 in
theorem gL_law_X2_at : GoodIn wsL_law (wsV RL 107 RX2 yX2_at wsX2_at) := goodIn_app (goodIn_of _ (by decide +kernel)) ggL_law_X2_at
set_option maxRecDepth 20000 in
theorem ggL_law_L_person : GoodIn wsL_law wsL_person := goodIn_ca (goodIn_r _ [329, 139, 330, 331, 332, 2, 333, 22, 23, 334, 144, 145, 146, 147, 148, 149, 150, 151, 152, 153, 24, 335, 336, 337, 338, 18, 76, 16, 77, 78, 29, 63, 64, 65, 66, 339, 340, 341, 358, 359, 360, 361, 362, 363, 364, 374, 375, 376] (by decide +kernel) (by decide +kernel)) (goodIn_sub (fun _ h => List.mem_append_right _ h) (by decide +kernel))
set_option maxRecDepth 20000 in
theorem gL_law_L_person : GoodIn wsL_law (va_wsS RL 108 yL_person wsL_person) := goodIn_app (goodIn_of _ (by decide +kernel)) ggL_law_L_person
set_option maxRecDepth 20000 in
theorem ggL_law_X2_person : GoodIn wsL_law wsX2_person := goodIn_r _ [345, 40, 41, 104, 168, 169, 170, 5, 171, 135, 86, 87, 88, 89, 90, 91, 92, 93, 346, 347, 348, 349, 35, 37, 36, 38, 105, 106, 107, 365, 366, 367, 368, 369, 370, 371, 372, 373] (by decide +kernel) (by decide +kernel)
set_option maxRecDepth 20000 in
theorem gL_law_X2_person : GoodIn wsL_law (wsV RL 110 RX2 yX2_person wsX2_person) := goodIn_app (goodIn_of _ (by decide +kernel)) ggL_law_X2_person
set_option maxRecDepth 20000 in
theorem ggL_law_X1_count : GoodIn wsL_law wsX1_count := goodIn_r _ [353, 24, 358, 359, 360, 361, 362, 363, 364] (by decide +kernel) (by decide +kernel)
set_option maxRecDepth 20000 in
theorem gL_law_X1_count : GoodIn wsL_law (wsV RL 111 RX1 yX1_count wsX1_count) := goodIn_app (goodIn_of _ (by decide +kernel)) ggL_law_X1_count
set_option maxRecDepth 20000 in
theorem ggL_law_X2_count : GoodIn wsL_law wsX2_count := goodIn_r _ [357, 93, 135, 365, 366, 367, 368, 369, 370, 371, 372, 373] (by decide +kernel) (by decide +kernel)
set_option maxRecDepth 20000 in
theorem gL_law_X2_count : GoodIn wsL_law (wsV RL 114 RX2 yX2_count wsX2_count) := goodIn_app (goodIn_of _ (by decide +kernel)) ggL_law_X2_count

