set_option maxRecDepth 20000 in
theorem ggX0_become_X0_blank : GoodIn wsX0_become wsX0_blank := goodIn_r _ [7, 8, 9, 10, 11, 12, 6, 13, 1, 14, 15, 16] (by decide +kernel) (by decide +kernel)
set_option maxRecDepth 20000 in
theorem gX0_become_X0_blank : GoodIn wsX0_become (wsV RX0 22 RX0 yX0_blank wsX0_blank) := goodIn_app (goodIn_of _ (by decide +kernel)) ggX0_become_X0_blank
set_option maxRecDepth 20000 in
theorem ggX0_family_X0_isRoster : GoodIn wsX0_family wsX0_isRoster := goodIn_r _ [6, 1, 7, 8, 9] (by decide +kernel) (by decide +kernel)
set_option maxRecDepth 20000 in
theorem gX0_family_X0_isRoster : GoodIn wsX0_family (wsV RX0 26 RX0 yX0_isRoster wsX0_isRoster) := goodIn_app (goodIn_of _ (by decide +kernel)) ggX0_family_X0_isRoster
set_option maxRecDepth 20000 in
theorem ggX0_blank_X0_isRoster : GoodIn wsX0_blank wsX0_isRoster := goodIn_r _ [7, 8, 9, 10, 11] (by decide +kernel) (by decide +kernel)
set_option maxRecDepth 20000 in
theorem gX0_blank_X0_isRoster : GoodIn wsX0_blank (wsV RX0 26 RX0 yX0_isRoster wsX0_isRoster) := goodIn_app (goodIn_of _ (by decide +kernel)) ggX0_blank_X0_isRoster
set_option maxRecDepth 20000 in
theorem ggX1_init_X0_init : GoodIn wsX1_init wsX0_init := goodIn_r _ [17, 18, 2, 3, 10, 19, 20, 21, 22, 23, 24] (by decide +kernel) (by decide +kernel)
set_option maxRecDepth 20000 in
theorem gX1_init_X0_init_n9 : GoodIn wsX1_init (wsX0_init) := ggX1_init_X0_init
set_option maxRecDepth 20000 in
theorem ggX1_hang_X1_requireHook : GoodIn wsX1_hang wsX1_requireHook := goodIn_ca (goodIn_r _ [8, 1, 2] (by decide +kernel) (by decide +kernel)) (goodIn_sub (fun _ h => List.mem_cons_of_mem _ (List.mem_append_right _ h)) (by decide +kernel))
set_option maxRecDepth 20000 in
theorem gX1_hang_X1_requireHook : GoodIn wsX1_hang (va_wsS RX1 40 yX1_requireHook wsX1_requireHook) := goodIn_app (goodIn_of _ (by decide +kernel)) ggX1_hang_X1_requireHook
set_option maxRecDepth 20000 in
theorem ggX1_hang_X1_requireMake : GoodIn wsX1_hang wsX1_requireMake := goodIn_ca (goodIn_r _ [11, 1, 2] (by decide +kernel) (by decide +kernel)) (goodIn_sub (fun _ h => List.mem_cons_of_mem _ (List.mem_append_right _ h)) (by decide +kernel))
set_option maxRecDepth 20000 in
theorem gX1_hang_X1_requireMake : GoodIn wsX1_hang (va_wsS RX1 43 yX1_requireMake wsX1_requireMake) := goodIn_app (goodIn_of _ (by decide +kernel)) ggX1_hang_X1_requireMake
set_option maxRecDepth 20000 in
theorem ggX1_hang_X1_idleSheet : GoodIn wsX1_hang wsX1_idleSheet := goodIn_r _ [15, 16, 17, 18, 19, 7, 20, 3, 37, 38, 39, 40, 41, 42, 43] (by decide +kernel) (by decide +kernel)
set_option maxRecDepth 20000 in
theorem gX1_hang_X1_idleSheet : GoodIn wsX1_hang (wsV RX1 53 RX1 yX1_idleSheet wsX1_idleSheet) := goodIn_app (goodIn_of _ (by decide +kernel)) ggX1_hang_X1_idleSheet
set_option maxRecDepth 20000 in
theorem ggX1_hang_X0_become : GoodIn wsX1_hang wsX0_become := goodIn_r _ [24, 25, 26, 27, 28, 29, 22, 30, 31, 32, 33, 34, 35, 36, 44, 45, 46] (by decide +kernel) (by decide +kernel)
set_option maxRecDepth 20000 in
theorem gX1_hang_X0_become_n57 : GoodIn wsX1_hang (wsX0_become) := ggX1_hang_X0_become
set_option maxRecDepth 20000 in
theorem ggX1_share_X1_requireHook : GoodIn wsX1_share wsX1_requireHook := goodIn_ca (goodIn_r _ [5, 6, 7] (by decide +kernel) (by decide +kernel)) (goodIn_sub (fun _ h => List.mem_cons_of_mem _ (List.mem_append_right _ h)) (by decide +kernel))
set_option maxRecDepth 20000 in
theorem gX1_share_X1_requireHook : GoodIn wsX1_share (va_wsS RX1 40 yX1_requireHook wsX1_requireHook) := goodIn_app (goodIn_of _ (by decide +kernel)) ggX1_share_X1_requireHook
set_option maxRecDepth 20000 in
theorem ggX1_put_X1_requireHook : GoodIn wsX1_put wsX1_requireHook := goodIn_ca (goodIn_r _ [5, 6, 7] (by decide +kernel) (by decide +kernel)) (goodIn_sub (fun _ h => List.mem_cons_of_mem _ (List.mem_append_left _ (List.mem_append_right _ h))) (by decide +kernel))
set_option maxRecDepth 20000 in
theorem gX1_put_X1_requireHook : GoodIn wsX1_put (va_wsS RX1 40 yX1_requireHook wsX1_requireHook) := goodIn_app (goodIn_of _ (by decide +kernel)) ggX1_put_X1_requireHook
set_option maxRecDepth 20000 in
theorem ggX1_put_X1_requirePerson : GoodIn wsX1_put wsX1_requirePerson := goodIn_ca (goodIn_r _ [11, 12, 13, 14, 15, 16, 4, 17, 18, 36, 37, 38, 39, 40, 41, 42] (by decide +kernel) (by decide +kernel)) (goodIn_sub (fun _ h => List.mem_cons_of_mem _ (List.mem_append_right _ h)) (by decide +kernel))
set_option maxRecDepth 20000 in
theorem gX1_put_X1_requirePerson : GoodIn wsX1_put (wsV RX1 64 RX1 yX1_requirePerson wsX1_requirePerson) := goodIn_app (goodIn_of _ (by decide +kernel)) ggX1_put_X1_requirePerson
set_option maxRecDepth 20000 in
theorem ggX1_put_X0_isNothing : GoodIn wsX1_put wsX0_isNothing := goodIn_r _ [22, 23, 43, 44, 45] (by decide +kernel) (by decide +kernel)
set_option maxRecDepth 20000 in
theorem gX1_put_X0_isNothing_n67 : GoodIn wsX1_put (wsX0_isNothing) := ggX1_put_X0_isNothing
set_option maxRecDepth 20000 in
theorem ggX1_put_X0_isRoster : GoodIn wsX1_put wsX0_isRoster := goodIn_r _ [26, 23, 43, 44, 45] (by decide +kernel) (by decide +kernel)
set_option maxRecDepth 20000 in
theorem gX1_put_X0_isRoster_n71 : GoodIn wsX1_put (wsX0_isRoster) := ggX1_put_X0_isRoster
set_option maxRecDepth 20000 in
theorem ggX1_put_X0_hasPlace : GoodIn wsX1_put wsX0_hasPlace := goodIn_r _ [29, 30, 43, 44, 45] (by decide +kernel) (by decide +kernel)
set_option maxRecDepth 20000 in
theorem gX1_put_X0_hasPlace_n74 : GoodIn wsX1_put (wsX0_hasPlace) := ggX1_put_X0_hasPlace
set_option maxRecDepth 20000 in
theorem ggX1_put_X1_takes : GoodIn wsX1_put wsX1_takes := goodIn_r _ [34, 35, 24, 20, 25, 26, 23, 14, 15, 16, 4, 17, 18, 43, 44, 45, 36, 37, 38, 39, 40, 41, 42] (by decide +kernel) (by decide +kernel)
set_option maxRecDepth 20000 in
theorem gX1_put_X1_takes : GoodIn wsX1_put (wsV RX1 78 RX1 yX1_takes wsX1_takes) := goodIn_app (goodIn_of _ (by decide +kernel)) ggX1_put_X1_takes
set_option maxRecDepth 20000 in
theorem ggX1_note_X1_requireHook : GoodIn wsX1_note wsX1_requireHook := goodIn_ca (goodIn_r _ [5, 6, 7] (by decide +kernel) (by decide +kernel)) (goodIn_sub (fun _ h => List.mem_cons_of_mem _ (List.mem_append_right _ h)) (by decide +kernel))
set_option maxRecDepth 20000 in
theorem gX1_note_X1_requireHook : GoodIn wsX1_note (va_wsS RX1 40 yX1_requireHook wsX1_requireHook) := goodIn_app (goodIn_of _ (by decide +kernel)) ggX1_note_X1_requireHook
set_option maxRecDepth 20000 in
theorem ggX1_note_X0_isNothing : GoodIn wsX1_note wsX0_isNothing := goodIn_r _ [11, 12, 24, 25, 26] (by decide +kernel) (by decide +kernel)
set_option maxRecDepth 20000 in
theorem gX1_note_X0_isNothing_n67 : GoodIn wsX1_note (wsX0_isNothing) := ggX1_note_X0_isNothing
set_option maxRecDepth 20000 in
theorem ggX1_note_X0_hasPlace : GoodIn wsX1_note wsX0_hasPlace := goodIn_r _ [15, 16, 24, 25, 26] (by decide +kernel) (by decide +kernel)
set_option maxRecDepth 20000 in
theorem gX1_note_X0_hasPlace_n74 : GoodIn wsX1_note (wsX0_hasPlace) := ggX1_note_X0_hasPlace
set_option maxRecDepth 20000 in
theorem ggX1_copy_X1_requireHook : GoodIn wsX1_copy wsX1_requireHook := goodIn_ca (goodIn_r _ [5, 6, 7] (by decide +kernel) (by decide +kernel)) (goodIn_sub (fun _ h => List.mem_cons_of_mem _ (List.mem_append_right _ h)) (by decide +kernel))
set_option maxRecDepth 20000 in
theorem gX1_copy_X1_requireHook : GoodIn wsX1_copy (va_wsS RX1 40 yX1_requireHook wsX1_requireHook) := goodIn_app (goodIn_of _ (by decide +kernel)) ggX1_copy_X1_requireHook
set_option maxRecDepth 20000 in
theorem ggX1_copy_X1_copySpan : GoodIn wsX1_copy wsX1_copySpan := goodIn_r _ [11, 12, 13, 14, 15, 16, 17, 18, 19, 20, 21, 22, 23, 4, 24, 25, 26, 27, 28, 29, 30, 31, 32, 33, 34, 35, 36, 37, 38, 39, 40, 41, 42, 43, 44, 45, 46, 47, 48, 56, 57, 58, 49, 50, 51, 52, 53, 54, 55] (by decide +kernel) (by decide +kernel)
set_option maxRecDepth 20000 in
theorem gX1_copy_X1_copySpan : GoodIn wsX1_copy (wsV RX1 85 RX1 yX1_copySpan wsX1_copySpan) := goodIn_app (goodIn_of _ (by decide +kernel)) ggX1_copy_X1_copySpan
set_option maxRecDepth 20000 in
theorem ggX1_slide_X1_requireHook : GoodIn wsX1_slide wsX1_requireHook := goodIn_ca (goodIn_r _ [5, 6, 7] (by decide +kernel) (by decide +kernel)) (goodIn_sub (fun _ h => List.mem_cons_of_mem _ (List.mem_append_right _ h)) (by decide +kernel))
set_option maxRecDepth 20000 in
theorem gX1_slide_X1_requireHook : GoodIn wsX1_slide (va_wsS RX1 40 yX1_requireHook wsX1_requireHook) := goodIn_app (goodIn_of _ (by decide +kernel)) ggX1_slide_X1_requireHook
set_option maxRecDepth 20000 in
theorem ggX1_slide_X0_isNothing : GoodIn wsX1_slide wsX0_isNothing := goodIn_r _ [11, 12, 42, 43, 44] (by decide +kernel) (by decide +kernel)
set_option maxRecDepth 20000 in
theorem gX1_slide_X0_isNothing_n67 : GoodIn wsX1_slide (wsX0_isNothing) := ggX1_slide_X0_isNothing
set_option maxRecDepth 20000 in
theorem ggX1_slide_X0_isRow : GoodIn wsX1_slide wsX0_isRow := goodIn_r _ [15, 12, 42, 43, 44] (by decide +kernel) (by decide +kernel)
set_option maxRecDepth 20000 in
theorem gX1_slide_X0_isRow_n89 : GoodIn wsX1_slide (wsX0_isRow) := ggX1_slide_X0_isRow
set_option maxRecDepth 20000 in
theorem ggX1_slide_X1_slideLater : GoodIn wsX1_slide wsX1_slideLater := goodIn_r _ [18, 19, 20, 21, 22, 23, 9, 24, 25, 26, 27, 28, 29, 30, 31, 12, 42, 43, 44] (by decide +kernel) (by decide +kernel)
set_option maxRecDepth 20000 in
theorem gX1_slide_X1_slideLater : GoodIn wsX1_slide (va_wsS RX1 95 yX1_slideLater wsX1_slideLater) := goodIn_app (goodIn_of _ (by decide +kernel)) ggX1_slide_X1_slideLater
set_option maxRecDepth 20000 in
theorem ggX1_slide_X1_slideEarlier : GoodIn wsX1_slide wsX1_slideEarlier := goodIn_r _ [34, 19, 20, 21, 22, 23, 9, 24, 25, 26, 27, 28, 29, 30, 31, 12, 42, 43, 44] (by decide +kernel) (by decide +kernel)
set_option maxRecDepth 20000 in
theorem gX1_slide_X1_slideEarlier : GoodIn wsX1_slide (va_wsS RX1 99 yX1_slideEarlier wsX1_slideEarlier) := goodIn_app (goodIn_of _ (by decide +kernel)) ggX1_slide_X1_slideEarlier
set_option maxRecDepth 20000 in
theorem ggX1_turn_X1_requireHook : GoodIn wsX1_turn wsX1_requireHook := goodIn_ca (goodIn_r _ [10, 11, 12] (by decide +kernel) (by decide +kernel)) (goodIn_sub (fun _ h => List.mem_cons_of_mem _ (List.mem_append_right _ h)) (by decide +kernel))
set_option maxRecDepth 20000 in
theorem gX1_turn_X1_requireHook : GoodIn wsX1_turn (va_wsS RX1 40 yX1_requireHook wsX1_requireHook) := goodIn_app (goodIn_of _ (by decide +kernel)) ggX1_turn_X1_requireHook
set_option maxRecDepth 20000 in
theorem ggX1_turn_X0_isNothing : GoodIn wsX1_turn wsX0_isNothing := goodIn_r _ [16, 17, 28, 29, 30] (by decide +kernel) (by decide +kernel)
set_option maxRecDepth 20000 in
theorem gX1_turn_X0_isNothing_n67 : GoodIn wsX1_turn (wsX0_isNothing) := ggX1_turn_X0_isNothing
set_option maxRecDepth 20000 in
theorem ggX1_turn_X0_isRow : GoodIn wsX1_turn wsX0_isRow := goodIn_r _ [20, 17, 28, 29, 30] (by decide +kernel) (by decide +kernel)
set_option maxRecDepth 20000 in
theorem gX1_turn_X0_isRow_n89 : GoodIn wsX1_turn (wsX0_isRow) := ggX1_turn_X0_isRow
set_option maxRecDepth 20000 in
theorem ggX1_join_X1_requireHook : GoodIn wsX1_join wsX1_requireHook := goodIn_ca (goodIn_r _ [5, 6, 7] (by decide +kernel) (by decide +kernel)) (goodIn_sub (fun _ h => List.mem_cons_of_mem _ (List.mem_append_right _ h)) (by decide +kernel))
set_option maxRecDepth 20000 in
theorem gX1_join_X1_requireHook : GoodIn wsX1_join (va_wsS RX1 40 yX1_requireHook wsX1_requireHook) := goodIn_app (goodIn_of _ (by decide +kernel)) ggX1_join_X1_requireHook
set_option maxRecDepth 20000 in
theorem ggX1_join_X1_copySpan : GoodIn wsX1_join wsX1_copySpan := goodIn_r _ [11, 12, 13, 14, 15, 16, 17, 18, 19, 20, 21, 22, 23, 4, 24, 25, 26, 27, 28, 29, 30, 31, 32, 33, 34, 35, 36, 37, 38, 39, 40, 41, 42, 43, 44, 45, 46, 47, 48, 56, 57, 58, 49, 50, 51, 52, 53, 54, 55] (by decide +kernel) (by decide +kernel)
set_option maxRecDepth 20000 in
theorem gX1_join_X1_copySpan : GoodIn wsX1_join (wsV RX1 85 RX1 yX1_copySpan wsX1_copySpan) := goodIn_app (goodIn_of _ (by decide +kernel)) ggX1_join_X1_copySpan
set_option maxRecDepth 20000 in
theorem ggX1_pay_X1_requireHook : GoodIn wsX1_pay wsX1_requireHook := goodIn_ca (goodIn_r _ [5, 6, 7] (by decide +kernel) (by decide +kernel)) (goodIn_sub (fun _ h => List.mem_cons_of_mem _ (List.mem_append_right _ h)) (by decide +kernel))
set_option maxRecDepth 20000 in
theorem gX1_pay_X1_requireHook : GoodIn wsX1_pay (va_wsS RX1 40 yX1_requireHook wsX1_requireHook) := goodIn_app (goodIn_of _ (by decide +kernel)) ggX1_pay_X1_requireHook
set_option maxRecDepth 20000 in
theorem ggX1_pay_X1_isForeign : GoodIn wsX1_pay wsX1_isForeign := goodIn_r _ [10, 11, 12, 13, 14, 15, 16, 17, 18, 19, 20, 21, 22, 46, 47, 48] (by decide +kernel) (by decide +kernel)
set_option maxRecDepth 20000 in
theorem gX1_pay_X1_isForeign : GoodIn wsX1_pay (va_wsS RX1 108 yX1_isForeign wsX1_isForeign) := goodIn_app (goodIn_of _ (by decide +kernel)) ggX1_pay_X1_isForeign
set_option maxRecDepth 20000 in
theorem ggX1_pay_X0_isNothing : GoodIn wsX1_pay wsX0_isNothing := goodIn_r _ [14, 15, 46, 47, 48] (by decide +kernel) (by decide +kernel)
set_option maxRecDepth 20000 in
theorem gX1_pay_X0_isNothing_n67 : GoodIn wsX1_pay (wsX0_isNothing) := ggX1_pay_X0_isNothing
set_option maxRecDepth 20000 in
theorem ggX1_pay_X0_hasPlace : GoodIn wsX1_pay wsX0_hasPlace := goodIn_r _ [25, 26, 46, 47, 48] (by decide +kernel) (by decide +kernel)
set_option maxRecDepth 20000 in
theorem gX1_pay_X0_hasPlace_n74 : GoodIn wsX1_pay (wsX0_hasPlace) := ggX1_pay_X0_hasPlace
set_option maxRecDepth 20000 in
theorem ggX1_pay_X1_fillPurse : GoodIn wsX1_pay wsX1_fillPurse := goodIn_r _ [30, 31, 32, 33, 34, 35, 36, 4, 37, 38, 39, 40, 41, 42, 43, 44, 45] (by decide +kernel) (by decide +kernel)
set_option maxRecDepth 20000 in
theorem gX1_pay_X1_fillPurse : GoodIn wsX1_pay (wsV RX1 112 RX1 yX1_fillPurse wsX1_fillPurse) := goodIn_app (goodIn_of _ (by decide +kernel)) ggX1_pay_X1_fillPurse
set_option maxRecDepth 20000 in
theorem ggX1_look_X1_requireHook : GoodIn wsX1_look wsX1_requireHook := goodIn_ca (goodIn_r _ [5, 6, 7] (by decide +kernel) (by decide +kernel)) (goodIn_sub (fun _ h => List.mem_cons_of_mem _ (List.mem_append_right _ h)) (by decide +kernel))
set_option maxRecDepth 20000 in
theorem gX1_look_X1_requireHook : GoodIn wsX1_look (va_wsS RX1 40 yX1_requireHook wsX1_requireHook) := goodIn_app (goodIn_of _ (by decide +kernel)) ggX1_look_X1_requireHook
set_option maxRecDepth 20000 in
theorem ggX1_look_X0_isRow : GoodIn wsX1_look wsX0_isRow := goodIn_r _ [11, 12, 27, 28, 29] (by decide +kernel) (by decide +kernel)
set_option maxRecDepth 20000 in
theorem gX1_look_X0_isRow_n89 : GoodIn wsX1_look (wsX0_isRow) := ggX1_look_X0_isRow
set_option maxRecDepth 20000 in
theorem ggX1_look_X0_isNothing : GoodIn wsX1_look wsX0_isNothing := goodIn_r _ [15, 12, 27, 28, 29] (by decide +kernel) (by decide +kernel)
set_option maxRecDepth 20000 in
theorem gX1_look_X0_isNothing_n67 : GoodIn wsX1_look (wsX0_isNothing) := ggX1_look_X0_isNothing
set_option maxRecDepth 20000 in
theorem ggX1_look_X1_leastHookWith : GoodIn wsX1_look wsX1_leastHookWith := goodIn_r _ [19, 1, 20, 21, 22, 23, 24, 25, 26] (by decide +kernel) (by decide +kernel)
set_option maxRecDepth 20000 in
theorem gX1_look_X1_leastHookWith : GoodIn wsX1_look (wsV RX1 116 RX1 yX1_leastHookWith wsX1_leastHookWith) := goodIn_app (goodIn_of _ (by decide +kernel)) ggX1_look_X1_leastHookWith
set_option maxRecDepth 20000 in
theorem ggX1_at_X1_requireHook : GoodIn wsX1_at wsX1_requireHook := goodIn_ca (goodIn_r _ [7, 8, 9] (by decide +kernel) (by decide +kernel)) (goodIn_sub (fun _ h => List.mem_cons_of_mem _ (List.mem_append_right _ h)) (by decide +kernel))
set_option maxRecDepth 20000 in
theorem gX1_at_X1_requireHook : GoodIn wsX1_at (va_wsS RX1 40 yX1_requireHook wsX1_requireHook) := goodIn_app (goodIn_of _ (by decide +kernel)) ggX1_at_X1_requireHook
set_option maxRecDepth 20000 in
theorem ggX1_at_X0_isRow : GoodIn wsX1_at wsX0_isRow := goodIn_r _ [13, 14, 26, 27, 28] (by decide +kernel) (by decide +kernel)
set_option maxRecDepth 20000 in
theorem gX1_at_X0_isRow_n89 : GoodIn wsX1_at (wsX0_isRow) := ggX1_at_X0_isRow
set_option maxRecDepth 20000 in
theorem ggX1_at_X0_hasPlace : GoodIn wsX1_at wsX0_hasPlace := goodIn_r _ [17, 18, 26, 27, 28] (by decide +kernel) (by decide +kernel)
set_option maxRecDepth 20000 in
theorem gX1_at_X0_hasPlace_n74 : GoodIn wsX1_at (wsX0_hasPlace) := ggX1_at_X0_hasPlace
set_option maxRecDepth 20000 in
theorem ggX1_person_X1_requirePerson : GoodIn wsX1_person wsX1_requirePerson := goodIn_ca (goodIn_r _ [8, 9, 10, 11, 12, 13, 7, 14, 15, 33, 34, 35, 36, 37, 38, 39] (by decide +kernel) (by decide +kernel)) (goodIn_sub (fun _ h => List.mem_cons_of_mem _ (List.mem_append_right _ h)) (by decide +kernel))
set_option maxRecDepth 20000 in
theorem gX1_person_X1_requirePerson : GoodIn wsX1_person (wsV RX1 64 RX1 yX1_requirePerson wsX1_requirePerson) := goodIn_app (goodIn_of _ (by decide +kernel)) ggX1_person_X1_requirePerson
set_option maxRecDepth 20000 in
theorem ggX1_person_X1_placesOnWall : GoodIn wsX1_person wsX1_placesOnWall := goodIn_r _ [19, 20, 21, 22, 23, 24, 25, 26, 27, 28, 7, 29, 30, 31, 32, 33, 34, 35, 36, 37, 38, 39, 40, 41, 42] (by decide +kernel) (by decide +kernel)
set_option maxRecDepth 20000 in
theorem gX1_person_X1_placesOnWall : GoodIn wsX1_person (wsV RX1 125 RX1 yX1_placesOnWall wsX1_placesOnWall) := goodIn_app (goodIn_of _ (by decide +kernel)) ggX1_person_X1_placesOnWall
set_option maxRecDepth 20000 in
theorem ggX1_requirePerson_X1_isHired : GoodIn wsX1_requirePerson wsX1_isHired := goodIn_r _ [7, 8, 9, 10, 11, 12, 13, 14, 15] (by decide +kernel) (by decide +kernel)
set_option maxRecDepth 20000 in
theorem gX1_requirePerson_X1_isHired : GoodIn wsX1_requirePerson (wsV RX1 135 RX1 yX1_isHired wsX1_isHired) := goodIn_app (goodIn_of _ (by decide +kernel)) ggX1_requirePerson_X1_isHired
set_option maxRecDepth 20000 in
theorem ggX1_idleSheet_X1_leastHookWith : GoodIn wsX1_idleSheet wsX1_leastHookWith := goodIn_r _ [6, 7, 8, 9, 10, 11, 12, 13, 14] (by decide +kernel) (by decide +kernel)
set_option maxRecDepth 20000 in
theorem gX1_idleSheet_X1_leastHookWith : GoodIn wsX1_idleSheet (wsV RX1 116 RX1 yX1_leastHookWith wsX1_leastHookWith) := goodIn_app (goodIn_of _ (by decide +kernel)) ggX1_idleSheet_X1_leastHookWith
set_option maxRecDepth 20000 in
theorem ggX1_takes_X0_isRoster : GoodIn wsX1_takes wsX0_isRoster := goodIn_r _ [5, 6, 13, 14, 15] (by decide +kernel) (by decide +kernel)
set_option maxRecDepth 20000 in
theorem gX1_takes_X0_isRoster_n71 : GoodIn wsX1_takes (wsX0_isRoster) := ggX1_takes_X0_isRoster
set_option maxRecDepth 20000 in
theorem ggX1_takes_X1_isHired : GoodIn wsX1_takes wsX1_isHired := goodIn_r _ [11, 12, 16, 17, 18, 19, 20, 21, 22] (by decide +kernel) (by decide +kernel)
set_option maxRecDepth 20000 in
theorem gX1_takes_X1_isHired : GoodIn wsX1_takes (wsV RX1 135 RX1 yX1_isHired wsX1_isHired) := goodIn_app (goodIn_of _ (by decide +kernel)) ggX1_takes_X1_isHired
set_option maxRecDepth 20000 in
theorem ggX1_areAlike_X0_isRow : GoodIn wsX1_areAlike wsX0_isRow := goodIn_r _ [4, 5, 13, 14, 15] (by decide +kernel) (by decide +kernel)
set_option maxRecDepth 20000 in
theorem gX1_areAlike_X0_isRow_n89 : GoodIn wsX1_areAlike (wsX0_isRow) := ggX1_areAlike_X0_isRow
set_option maxRecDepth 20000 in
theorem ggX1_areAlike_X0_family : GoodIn wsX1_areAlike wsX0_family := goodIn_r _ [8, 5, 9, 10, 11, 2, 12, 13, 14, 15] (by decide +kernel) (by decide +kernel)
set_option maxRecDepth 20000 in
theorem gX1_areAlike_X0_family_n141 : GoodIn wsX1_areAlike (wsX0_family) := ggX1_areAlike_X0_family
set_option maxRecDepth 20000 in
theorem ggX1_isForeign_X0_isNothing : GoodIn wsX1_isForeign wsX0_isNothing := goodIn_r _ [4, 5, 13, 14, 15] (by decide +kernel) (by decide +kernel)
set_option maxRecDepth 20000 in
theorem gX1_isForeign_X0_isNothing_n67 : GoodIn wsX1_isForeign (wsX0_isNothing) := ggX1_isForeign_X0_isNothing
set_option maxRecDepth 20000 in
theorem ggX1_isForeign_X0_family : GoodIn wsX1_isForeign wsX0_family := goodIn_r _ [8, 5, 9, 10, 11, 2, 12, 13, 14, 15] (by decide +kernel) (by decide +kernel)
set_option maxRecDepth 20000 in
theorem gX1_isForeign_X0_family_n141 : GoodIn wsX1_isForeign (wsX0_family) := ggX1_isForeign_X0_family
set_option maxRecDepth 20000 in
theorem ggX1_copySpan_X0_isNothing : GoodIn wsX1_copySpan wsX0_isNothing := goodIn_r _ [9, 10, 39, 40, 41] (by decide +kernel) (by decide +kernel)
set_option maxRecDepth 20000 in
theorem gX1_copySpan_X0_isNothing_n67 : GoodIn wsX1_copySpan (wsX0_isNothing) := ggX1_copySpan_X0_isNothing
set_option maxRecDepth 20000 in
theorem ggX1_copySpan_X1_areAlike : GoodIn wsX1_copySpan wsX1_areAlike := goodIn_r _ [14, 15, 7, 16, 17, 10, 18, 19, 20, 21, 22, 23, 24, 39, 40, 41] (by decide +kernel) (by decide +kernel)
set_option maxRecDepth 20000 in
theorem gX1_copySpan_X1_areAlike : GoodIn wsX1_copySpan (va_wsS RX1 145 yX1_areAlike wsX1_areAlike) := goodIn_app (goodIn_of _ (by decide +kernel)) ggX1_copySpan_X1_areAlike
set_option maxRecDepth 20000 in
theorem ggX1_copySpan_X0_hasSpan : GoodIn wsX1_copySpan wsX0_hasSpan := goodIn_r _ [27, 28, 39, 40, 41] (by decide +kernel) (by decide +kernel)
set_option maxRecDepth 20000 in
theorem gX1_copySpan_X0_hasSpan_n149 : GoodIn wsX1_copySpan (wsX0_hasSpan) := ggX1_copySpan_X0_hasSpan
set_option maxRecDepth 20000 in
theorem ggX1_copySpan_X1_takes : GoodIn wsX1_copySpan wsX1_takes := goodIn_r _ [32, 33, 22, 7, 23, 24, 10, 34, 35, 36, 13, 37, 38, 39, 40, 41, 42, 43, 44, 45, 46, 47, 48] (by decide +kernel) (by decide +kernel)
set_option maxRecDepth 20000 in
theorem gX1_copySpan_X1_takes : GoodIn wsX1_copySpan (wsV RX1 78 RX1 yX1_takes wsX1_takes) := goodIn_app (goodIn_of _ (by decide +kernel)) ggX1_copySpan_X1_takes
set_option maxRecDepth 20000 in
theorem ggX1_slideLater_X0_blank : GoodIn wsX1_slideLater wsX0_blank := goodIn_r _ [8, 9, 10, 11, 12, 13, 6, 14, 15, 16, 17, 18] (by decide +kernel) (by decide +kernel)
set_option maxRecDepth 20000 in
theorem gX1_slideLater_X0_blank_n153 : GoodIn wsX1_slideLater (wsX0_blank) := ggX1_slideLater_X0_blank
set_option maxRecDepth 20000 in
theorem ggX1_slideEarlier_X0_blank : GoodIn wsX1_slideEarlier wsX0_blank := goodIn_r _ [8, 9, 10, 11, 12, 13, 6, 14, 15, 16, 17, 18] (by decide +kernel) (by decide +kernel)
set_option maxRecDepth 20000 in
theorem gX1_slideEarlier_X0_blank_n153 : GoodIn wsX1_slideEarlier (wsX0_blank) := ggX1_slideEarlier_X0_blank
set_option maxRecDepth 20000 in
theorem ggX1_fillPurse_X1_isHired : GoodIn wsX1_fillPurse wsX1_isHired := goodIn_r _ [8, 9, 10, 11, 12, 13, 14, 15, 16] (by decide +kernel) (by decide +kernel)
set_option maxRecDepth 20000 in
theorem gX1_fillPurse_X1_isHired : GoodIn wsX1_fillPurse (wsV RX1 135 RX1 yX1_isHired wsX1_isHired) := goodIn_app (goodIn_of _ (by decide +kernel)) ggX1_fillPurse_X1_isHired
set_option maxRecDepth 20000 in
theorem ggX1_placesOnWall_X0_isRoster : GoodIn wsX1_placesOnWall wsX0_isRoster := goodIn_r _ [5, 6, 22, 23, 24] (by decide +kernel) (by decide +kernel)
set_option maxRecDepth 20000 in
theorem gX1_placesOnWall_X0_isRoster_n71 : GoodIn wsX1_placesOnWall (wsX0_isRoster) := ggX1_placesOnWall_X0_isRoster
set_option maxRecDepth 20000 in
theorem ggX1_placesOnWall_X1_leastHookWith : GoodIn wsX1_placesOnWall wsX1_leastHookWith := goodIn_r _ [11, 1, 15, 16, 17, 18, 19, 20, 21] (by decide +kernel) (by decide +kernel)
set_option maxRecDepth 20000 in
theorem gX1_placesOnWall_X1_leastHookWith : GoodIn wsX1_placesOnWall (wsV RX1 116 RX1 yX1_leastHookWith wsX1_leastHookWith) := goodIn_app (goodIn_of _ (by decide +kernel)) ggX1_placesOnWall_X1_leastHookWith
set_option maxRecDepth 20000 in
theorem ggX1_placesOnWall_X1_placesWith : GoodIn wsX1_placesOnWall wsX1_placesWith := goodIn_r _ [14, 22, 23, 24] (by decide +kernel) (by decide +kernel)
set_option maxRecDepth 20000 in
theorem gX1_placesOnWall_X1_placesWith : GoodIn wsX1_placesOnWall (va_wsS RX1 159 yX1_placesWith wsX1_placesWith) := goodIn_app (goodIn_of _ (by decide +kernel)) ggX1_placesOnWall_X1_placesWith
set_option maxRecDepth 20000 in
theorem ggX2_noHook_X2_outside : GoodIn wsX2_noHook wsX2_outside := goodIn_r _ [4] (by decide +kernel) (by decide +kernel)
set_option maxRecDepth 20000 in
theorem gX2_noHook_X2_outside : GoodIn wsX2_noHook (va_wsS RX2 36 yX2_outside wsX2_outside) := goodIn_app (goodIn_of _ (by decide +kernel)) ggX2_noHook_X2_outside
set_option maxRecDepth 20000 in
theorem ggX2_noPerson_X2_outside : GoodIn wsX2_noPerson wsX2_outside := goodIn_r _ [5] (by decide +kernel) (by decide +kernel)
set_option maxRecDepth 20000 in
theorem gX2_noPerson_X2_outside : GoodIn wsX2_noPerson (va_wsS RX2 36 yX2_outside wsX2_outside) := goodIn_app (goodIn_of _ (by decide +kernel)) ggX2_noPerson_X2_outside
set_option maxRecDepth 20000 in
theorem ggX2_sizeOf_X2_makeOf : GoodIn wsX2_sizeOf wsX2_makeOf := goodIn_r _ [7, 2, 8, 12, 13, 14, 15, 16, 17, 18, 19, 20] (by decide +kernel) (by decide +kernel)
set_option maxRecDepth 20000 in
theorem gX2_sizeOf_X2_makeOf : GoodIn wsX2_sizeOf (wsV RX2 43 RX2 yX2_makeOf wsX2_makeOf) := goodIn_app (goodIn_of _ (by decide +kernel)) ggX2_sizeOf_X2_makeOf
set_option maxRecDepth 20000 in
theorem ggX2_sizeOf_X2_isRow : GoodIn wsX2_sizeOf wsX2_isRow := goodIn_r _ [11] (by decide +kernel) (by decide +kernel)
set_option maxRecDepth 20000 in
theorem gX2_sizeOf_X2_isRow : GoodIn wsX2_sizeOf (va_wsS RX2 47 yX2_isRow wsX2_isRow) := goodIn_app (goodIn_of _ (by decide +kernel)) ggX2_sizeOf_X2_isRow
set_option maxRecDepth 20000 in
theorem ggX2_areAlike_X2_isRoster : GoodIn wsX2_areAlike wsX2_isRoster := goodIn_r _ [4] (by decide +kernel) (by decide +kernel)
set_option maxRecDepth 20000 in
theorem gX2_areAlike_X2_isRoster : GoodIn wsX2_areAlike (va_wsS RX2 51 yX2_isRoster wsX2_isRoster) := goodIn_app (goodIn_of _ (by decide +kernel)) ggX2_areAlike_X2_isRoster
set_option maxRecDepth 20000 in
theorem ggX2_blank_X2_isRoster : GoodIn wsX2_blank wsX2_isRoster := goodIn_r _ [5] (by decide +kernel) (by decide +kernel)
set_option maxRecDepth 20000 in
theorem gX2_blank_X2_isRoster : GoodIn wsX2_blank (va_wsS RX2 51 yX2_isRoster wsX2_isRoster) := goodIn_app (goodIn_of _ (by decide +kernel)) ggX2_blank_X2_isRoster
set_option maxRecDepth 20000 in
theorem ggX2_mayStand_X2_isRoster : GoodIn wsX2_mayStand wsX2_isRoster := goodIn_r _ [5] (by decide +kernel) (by decide +kernel)
set_option maxRecDepth 20000 in
theorem gX2_mayStand_X2_isRoster : GoodIn wsX2_mayStand (va_wsS RX2 51 yX2_isRoster wsX2_isRoster) := goodIn_app (goodIn_of _ (by decide +kernel)) ggX2_mayStand_X2_isRoster
set_option maxRecDepth 20000 in
theorem ggX2_mayStand_X2_takes : GoodIn wsX2_mayStand wsX2_takes := goodIn_r _ [8] (by decide +kernel) (by decide +kernel)
set_option maxRecDepth 20000 in
theorem gX2_mayStand_X2_takes : GoodIn wsX2_mayStand (va_wsS RX2 56 yX2_takes wsX2_takes) := goodIn_app (goodIn_of _ (by decide +kernel)) ggX2_mayStand_X2_takes
set_option maxRecDepth 20000 in
theorem ggX2_hang_X2_noHook : GoodIn wsX2_hang wsX2_noHook := goodIn_r _ [8, 9, 10, 7, 11] (by decide +kernel) (by decide +kernel)
set_option maxRecDepth 20000 in
theorem gX2_hang_X2_noHook : GoodIn wsX2_hang (va_wsS RX2 60 yX2_noHook wsX2_noHook) := goodIn_app (goodIn_of _ (by decide +kernel)) ggX2_hang_X2_noHook
set_option maxRecDepth 20000 in
theorem ggX2_hang_X2_outside : GoodIn wsX2_hang wsX2_outside := goodIn_r _ [11] (by decide +kernel) (by decide +kernel)
set_option maxRecDepth 20000 in
theorem gX2_hang_X2_outside : GoodIn wsX2_hang (va_wsS RX2 36 yX2_outside wsX2_outside) := goodIn_app (goodIn_of _ (by decide +kernel)) ggX2_hang_X2_outside
set_option maxRecDepth 20000 in
theorem ggX2_hang_X2_fails : GoodIn wsX2_hang wsX2_fails := goodIn_r _ [15, 16, 31, 32, 33, 34, 35, 36, 37, 38, 39] (by decide +kernel) (by decide +kernel)
set_option maxRecDepth 20000 in
theorem gX2_hang_X2_fails : GoodIn wsX2_hang (wsV RX2 63 RX2 yX2_fails wsX2_fails) := goodIn_app (goodIn_of _ (by decide +kernel)) ggX2_hang_X2_fails
set_option maxRecDepth 20000 in
theorem ggX2_hang_X2_isRow : GoodIn wsX2_hang wsX2_isRow := goodIn_r _ [19] (by decide +kernel) (by decide +kernel)
set_option maxRecDepth 20000 in
theorem gX2_hang_X2_isRow : GoodIn wsX2_hang (va_wsS RX2 47 yX2_isRow wsX2_isRow) := goodIn_app (goodIn_of _ (by decide +kernel)) ggX2_hang_X2_isRow
set_option maxRecDepth 20000 in
theorem ggX2_hang_X2_fresh : GoodIn wsX2_hang wsX2_fresh := goodIn_r _ [23, 1, 31, 32, 33, 34, 35, 36, 37, 38, 39] (by decide +kernel) (by decide +kernel)
set_option maxRecDepth 20000 in
theorem gX2_hang_X2_fresh : GoodIn wsX2_hang (wsV RX2 67 RX2 yX2_fresh wsX2_fresh) := goodIn_app (goodIn_of _ (by decide +kernel)) ggX2_hang_X2_fresh
set_option maxRecDepth 20000 in
theorem ggX2_hang_X2_blank : GoodIn wsX2_hang wsX2_blank := goodIn_r _ [26, 27, 28, 29, 7, 30] (by decide +kernel) (by decide +kernel)
set_option maxRecDepth 20000 in
theorem gX2_hang_X2_blank : GoodIn wsX2_hang (va_wsS RX2 71 yX2_blank wsX2_blank) := goodIn_app (goodIn_of _ (by decide +kernel)) ggX2_hang_X2_blank
set_option maxRecDepth 20000 in
theorem ggX2_share_X2_noHook : GoodIn wsX2_share wsX2_noHook := goodIn_r _ [5, 6, 7, 4, 8] (by decide +kernel) (by decide +kernel)
set_option maxRecDepth 20000 in
theorem gX2_share_X2_noHook : GoodIn wsX2_share (va_wsS RX2 60 yX2_noHook wsX2_noHook) := goodIn_app (goodIn_of _ (by decide +kernel)) ggX2_share_X2_noHook
set_option maxRecDepth 20000 in
theorem ggX2_share_X2_fails : GoodIn wsX2_share wsX2_fails := goodIn_r _ [12, 13, 19, 20, 21, 22, 23, 24, 25, 26, 27] (by decide +kernel) (by decide +kernel)
set_option maxRecDepth 20000 in
theorem gX2_share_X2_fails : GoodIn wsX2_share (wsV RX2 63 RX2 yX2_fails wsX2_fails) := goodIn_app (goodIn_of _ (by decide +kernel)) ggX2_share_X2_fails
set_option maxRecDepth 20000 in
theorem ggX2_share_X2_makeOf : GoodIn wsX2_share wsX2_makeOf := goodIn_r _ [17, 1, 18, 19, 20, 21, 22, 23, 24, 25, 26, 27] (by decide +kernel) (by decide +kernel)
set_option maxRecDepth 20000 in
theorem gX2_share_X2_makeOf : GoodIn wsX2_share (wsV RX2 43 RX2 yX2_makeOf wsX2_makeOf) := goodIn_app (goodIn_of _ (by decide +kernel)) ggX2_share_X2_makeOf
set_option maxRecDepth 20000 in
theorem ggX2_hire_X2_outside : GoodIn wsX2_hire wsX2_outside := goodIn_r _ [8] (by decide +kernel) (by decide +kernel)
set_option maxRecDepth 20000 in
theorem gX2_hire_X2_outside : GoodIn wsX2_hire (va_wsS RX2 36 yX2_outside wsX2_outside) := goodIn_app (goodIn_of _ (by decide +kernel)) ggX2_hire_X2_outside
set_option maxRecDepth 20000 in
theorem ggX2_put_X2_noHook : GoodIn wsX2_put wsX2_noHook := goodIn_r _ [7, 8, 9, 6, 10] (by decide +kernel) (by decide +kernel)
set_option maxRecDepth 20000 in
theorem gX2_put_X2_noHook : GoodIn wsX2_put (va_wsS RX2 60 yX2_noHook wsX2_noHook) := goodIn_app (goodIn_of _ (by decide +kernel)) ggX2_put_X2_noHook
set_option maxRecDepth 20000 in
theorem ggX2_put_X2_noPerson : GoodIn wsX2_put wsX2_noPerson := goodIn_r _ [14, 15, 8, 9, 6, 10, 40, 41, 42, 43, 44, 45, 46, 47, 48] (by decide +kernel) (by decide +kernel)
set_option maxRecDepth 20000 in
theorem gX2_put_X2_noPerson : GoodIn wsX2_put (wsV RX2 75 RX2 yX2_noPerson wsX2_noPerson) := goodIn_app (goodIn_of _ (by decide +kernel)) ggX2_put_X2_noPerson
set_option maxRecDepth 20000 in
theorem ggX2_put_X2_fails : GoodIn wsX2_put wsX2_fails := goodIn_r _ [19, 20, 40, 41, 42, 43, 44, 45, 46, 47, 48] (by decide +kernel) (by decide +kernel)
set_option maxRecDepth 20000 in
theorem gX2_put_X2_fails : GoodIn wsX2_put (wsV RX2 63 RX2 yX2_fails wsX2_fails) := goodIn_app (goodIn_of _ (by decide +kernel)) ggX2_put_X2_fails
set_option maxRecDepth 20000 in
theorem ggX2_put_X2_makeOf : GoodIn wsX2_put wsX2_makeOf := goodIn_r _ [24, 3, 25, 40, 41, 42, 43, 44, 45, 46, 47, 48] (by decide +kernel) (by decide +kernel)
set_option maxRecDepth 20000 in
theorem gX2_put_X2_makeOf : GoodIn wsX2_put (wsV RX2 43 RX2 yX2_makeOf wsX2_makeOf) := goodIn_app (goodIn_of _ (by decide +kernel)) ggX2_put_X2_makeOf
set_option maxRecDepth 20000 in
theorem ggX2_put_X2_isRoster : GoodIn wsX2_put wsX2_isRoster := goodIn_r _ [28] (by decide +kernel) (by decide +kernel)
set_option maxRecDepth 20000 in
theorem gX2_put_X2_isRoster : GoodIn wsX2_put (va_wsS RX2 51 yX2_isRoster wsX2_isRoster) := goodIn_app (goodIn_of _ (by decide +kernel)) ggX2_put_X2_isRoster
set_option maxRecDepth 20000 in
theorem ggX2_put_X2_sizeOf : GoodIn wsX2_put wsX2_sizeOf := goodIn_r _ [32, 33, 3, 21, 22, 23, 6, 24, 25, 34, 35, 36, 40, 41, 42, 43, 44, 45, 46, 47, 48] (by decide +kernel) (by decide +kernel)
set_option maxRecDepth 20000 in
theorem gX2_put_X2_sizeOf : GoodIn wsX2_put (wsV RX2 78 RX2 yX2_sizeOf wsX2_sizeOf) := goodIn_app (goodIn_of _ (by decide +kernel)) ggX2_put_X2_sizeOf
set_option maxRecDepth 20000 in
theorem ggX2_put_X2_outside : GoodIn wsX2_put wsX2_outside := goodIn_r _ [10] (by decide +kernel) (by decide +kernel)
set_option maxRecDepth 20000 in
theorem gX2_put_X2_outside : GoodIn wsX2_put (va_wsS RX2 36 yX2_outside wsX2_outside) := goodIn_app (goodIn_of _ (by decide +kernel)) ggX2_put_X2_outside
set_option maxRecDepth 20000 in
theorem ggX2_put_X2_takes : GoodIn wsX2_put wsX2_takes := goodIn_r _ [39] (by decide +kernel) (by decide +kernel)
set_option maxRecDepth 20000 in
theorem gX2_put_X2_takes : GoodIn wsX2_put (va_wsS RX2 56 yX2_takes wsX2_takes) := goodIn_app (goodIn_of _ (by decide +kernel)) ggX2_put_X2_takes
set_option maxRecDepth 20000 in
theorem ggX2_note_X2_noHook : GoodIn wsX2_note wsX2_noHook := goodIn_r _ [6, 7, 8, 5, 9] (by decide +kernel) (by decide +kernel)
set_option maxRecDepth 20000 in
theorem gX2_note_X2_noHook : GoodIn wsX2_note (va_wsS RX2 60 yX2_noHook wsX2_noHook) := goodIn_app (goodIn_of _ (by decide +kernel)) ggX2_note_X2_noHook
set_option maxRecDepth 20000 in
theorem ggX2_note_X2_fails : GoodIn wsX2_note wsX2_fails := goodIn_r _ [13, 14, 28, 29, 30, 31, 32, 33, 34, 35, 36] (by decide +kernel) (by decide +kernel)
set_option maxRecDepth 20000 in
theorem gX2_note_X2_fails : GoodIn wsX2_note (wsV RX2 63 RX2 yX2_fails wsX2_fails) := goodIn_app (goodIn_of _ (by decide +kernel)) ggX2_note_X2_fails
set_option maxRecDepth 20000 in
theorem ggX2_note_X2_makeOf : GoodIn wsX2_note wsX2_makeOf := goodIn_r _ [18, 2, 19, 28, 29, 30, 31, 32, 33, 34, 35, 36] (by decide +kernel) (by decide +kernel)
set_option maxRecDepth 20000 in
theorem gX2_note_X2_makeOf : GoodIn wsX2_note (wsV RX2 43 RX2 yX2_makeOf wsX2_makeOf) := goodIn_app (goodIn_of _ (by decide +kernel)) ggX2_note_X2_makeOf
set_option maxRecDepth 20000 in
theorem ggX2_note_X2_sizeOf : GoodIn wsX2_note wsX2_sizeOf := goodIn_r _ [23, 24, 2, 15, 16, 17, 5, 18, 19, 25, 26, 27, 28, 29, 30, 31, 32, 33, 34, 35, 36] (by decide +kernel) (by decide +kernel)
set_option maxRecDepth 20000 in
theorem gX2_note_X2_sizeOf : GoodIn wsX2_note (wsV RX2 78 RX2 yX2_sizeOf wsX2_sizeOf) := goodIn_app (goodIn_of _ (by decide +kernel)) ggX2_note_X2_sizeOf
set_option maxRecDepth 20000 in
theorem ggX2_note_X2_outside : GoodIn wsX2_note wsX2_outside := goodIn_r _ [9] (by decide +kernel) (by decide +kernel)
set_option maxRecDepth 20000 in
theorem gX2_note_X2_outside : GoodIn wsX2_note (va_wsS RX2 36 yX2_outside wsX2_outside) := goodIn_app (goodIn_of _ (by decide +kernel)) ggX2_note_X2_outside
set_option maxRecDepth 20000 in
theorem ggX2_refused_X2_makeOf : GoodIn wsX2_refused wsX2_makeOf := goodIn_r _ [5, 6, 7, 22, 23, 24, 25, 26, 27, 28, 29, 30] (by decide +kernel) (by decide +kernel)
set_option maxRecDepth 20000 in
theorem gX2_refused_X2_makeOf : GoodIn wsX2_refused (wsV RX2 43 RX2 yX2_makeOf wsX2_makeOf) := goodIn_app (goodIn_of _ (by decide +kernel)) ggX2_refused_X2_makeOf
set_option maxRecDepth 20000 in
theorem ggX2_refused_X2_isRow : GoodIn wsX2_refused wsX2_isRow := goodIn_r _ [10] (by decide +kernel) (by decide +kernel)
set_option maxRecDepth 20000 in
theorem gX2_refused_X2_isRow : GoodIn wsX2_refused (va_wsS RX2 47 yX2_isRow wsX2_isRow) := goodIn_app (goodIn_of _ (by decide +kernel)) ggX2_refused_X2_isRow
set_option maxRecDepth 20000 in
theorem ggX2_refused_X2_areAlike : GoodIn wsX2_refused wsX2_areAlike := goodIn_r _ [13, 14, 15, 4, 16] (by decide +kernel) (by decide +kernel)
set_option maxRecDepth 20000 in
theorem gX2_refused_X2_areAlike : GoodIn wsX2_refused (va_wsS RX2 81 yX2_areAlike wsX2_areAlike) := goodIn_app (goodIn_of _ (by decide +kernel)) ggX2_refused_X2_areAlike
set_option maxRecDepth 20000 in
theorem ggX2_refused_X2_sizeOf : GoodIn wsX2_refused wsX2_sizeOf := goodIn_r _ [20, 21, 6, 1, 2, 3, 4, 5, 7, 8, 9, 10, 22, 23, 24, 25, 26, 27, 28, 29, 30] (by decide +kernel) (by decide +kernel)
set_option maxRecDepth 20000 in
theorem gX2_refused_X2_sizeOf : GoodIn wsX2_refused (wsV RX2 78 RX2 yX2_sizeOf wsX2_sizeOf) := goodIn_app (goodIn_of _ (by decide +kernel)) ggX2_refused_X2_sizeOf
set_option maxRecDepth 20000 in
theorem ggX2_copies_X2_refused : GoodIn wsX2_copies wsX2_refused := goodIn_r _ [8, 9, 10, 11, 7, 12, 1, 13, 14, 15, 16, 17, 18, 19, 20, 21, 22, 23, 24, 25, 26, 27, 36, 37, 38, 39, 40, 41, 42, 43, 44] (by decide +kernel) (by decide +kernel)
set_option maxRecDepth 20000 in
theorem gX2_copies_X2_refused : GoodIn wsX2_copies (wsV RX2 84 RX2 yX2_refused wsX2_refused) := goodIn_app (goodIn_of _ (by decide +kernel)) ggX2_copies_X2_refused
set_option maxRecDepth 20000 in
theorem ggX2_copies_X2_makeOf : GoodIn wsX2_copies wsX2_makeOf := goodIn_r _ [12, 1, 13, 36, 37, 38, 39, 40, 41, 42, 43, 44] (by decide +kernel) (by decide +kernel)
set_option maxRecDepth 20000 in
theorem gX2_copies_X2_makeOf : GoodIn wsX2_copies (wsV RX2 43 RX2 yX2_makeOf wsX2_makeOf) := goodIn_app (goodIn_of _ (by decide +kernel)) ggX2_copies_X2_makeOf
set_option maxRecDepth 20000 in
theorem ggX2_copies_X2_mayStand : GoodIn wsX2_copies wsX2_mayStand := goodIn_r _ [31, 32, 20, 21, 7, 22, 33, 34, 35, 36, 37, 38, 39, 40, 41, 42, 43, 44] (by decide +kernel) (by decide +kernel)
set_option maxRecDepth 20000 in
theorem gX2_copies_X2_mayStand : GoodIn wsX2_copies (wsV RX2 88 RX2 yX2_mayStand wsX2_mayStand) := goodIn_app (goodIn_of _ (by decide +kernel)) ggX2_copies_X2_mayStand
set_option maxRecDepth 20000 in
theorem ggX2_copy_X2_noHook : GoodIn wsX2_copy wsX2_noHook := goodIn_r _ [4, 5, 6, 3, 7] (by decide +kernel) (by decide +kernel)
set_option maxRecDepth 20000 in
theorem gX2_copy_X2_noHook : GoodIn wsX2_copy (va_wsS RX2 60 yX2_noHook wsX2_noHook) := goodIn_app (goodIn_of _ (by decide +kernel)) ggX2_copy_X2_noHook
set_option maxRecDepth 20000 in
theorem ggX2_copy_X2_fails : GoodIn wsX2_copy wsX2_fails := goodIn_r _ [11, 12, 51, 52, 53, 54, 55, 56, 57, 58, 59] (by decide +kernel) (by decide +kernel)
set_option maxRecDepth 20000 in
theorem gX2_copy_X2_fails : GoodIn wsX2_copy (wsV RX2 63 RX2 yX2_fails wsX2_fails) := goodIn_app (goodIn_of _ (by decide +kernel)) ggX2_copy_X2_fails
set_option maxRecDepth 20000 in
theorem ggX2_copy_X2_copies : GoodIn wsX2_copy wsX2_copies := goodIn_r _ [16, 17, 18, 19, 20, 21, 22, 3, 23, 24, 25, 26, 27, 28, 29, 30, 31, 32, 33, 34, 35, 36, 37, 38, 39, 40, 41, 42, 43, 44, 45, 46, 47, 48, 49, 50, 51, 52, 53, 54, 55, 56, 57, 58, 59] (by decide +kernel) (by decide +kernel)
set_option maxRecDepth 20000 in
theorem gX2_copy_X2_copies : GoodIn wsX2_copy (wsV RX2 92 RX2 yX2_copies wsX2_copies) := goodIn_app (goodIn_of _ (by decide +kernel)) ggX2_copy_X2_copies
set_option maxRecDepth 20000 in
theorem ggX2_join_X2_noHook : GoodIn wsX2_join wsX2_noHook := goodIn_r _ [4, 5, 6, 3, 7] (by decide +kernel) (by decide +kernel)
set_option maxRecDepth 20000 in
theorem gX2_join_X2_noHook : GoodIn wsX2_join (va_wsS RX2 60 yX2_noHook wsX2_noHook) := goodIn_app (goodIn_of _ (by decide +kernel)) ggX2_join_X2_noHook
set_option maxRecDepth 20000 in
theorem ggX2_join_X2_fails : GoodIn wsX2_join wsX2_fails := goodIn_r _ [11, 12, 51, 52, 53, 54, 55, 56, 57, 58, 59] (by decide +kernel) (by decide +kernel)
set_option maxRecDepth 20000 in
theorem gX2_join_X2_fails : GoodIn wsX2_join (wsV RX2 63 RX2 yX2_fails wsX2_fails) := goodIn_app (goodIn_of _ (by decide +kernel)) ggX2_join_X2_fails
set_option maxRecDepth 20000 in
theorem ggX2_join_X2_sizeOf : GoodIn wsX2_join wsX2_sizeOf := goodIn_r _ [16, 17, 18, 19, 20, 21, 3, 22, 23, 24, 25, 26, 51, 52, 53, 54, 55, 56, 57, 58, 59] (by decide +kernel) (by decide +kernel)
set_option maxRecDepth 20000 in
theorem gX2_join_X2_sizeOf : GoodIn wsX2_join (wsV RX2 78 RX2 yX2_sizeOf wsX2_sizeOf) := goodIn_app (goodIn_of _ (by decide +kernel)) ggX2_join_X2_sizeOf
set_option maxRecDepth 20000 in
theorem ggX2_join_X2_copies : GoodIn wsX2_join wsX2_copies := goodIn_r _ [30, 18, 31, 32, 33, 34, 35, 3, 36, 19, 20, 21, 22, 23, 24, 25, 26, 37, 38, 39, 40, 41, 42, 13, 14, 15, 16, 17, 43, 44, 45, 46, 47, 48, 49, 50, 51, 52, 53, 54, 55, 56, 57, 58, 59] (by decide +kernel) (by decide +kernel)
set_option maxRecDepth 20000 in
theorem gX2_join_X2_copies : GoodIn wsX2_join (wsV RX2 92 RX2 yX2_copies wsX2_copies) := goodIn_app (goodIn_of _ (by decide +kernel)) ggX2_join_X2_copies
set_option maxRecDepth 20000 in
theorem ggX2_noRow_X2_makeOf : GoodIn wsX2_noRow wsX2_makeOf := goodIn_r _ [5, 6, 7, 11, 12, 13, 14, 15, 16, 17, 18, 19] (by decide +kernel) (by decide +kernel)
set_option maxRecDepth 20000 in
theorem gX2_noRow_X2_makeOf : GoodIn wsX2_noRow (wsV RX2 43 RX2 yX2_makeOf wsX2_makeOf) := goodIn_app (goodIn_of _ (by decide +kernel)) ggX2_noRow_X2_makeOf
set_option maxRecDepth 20000 in
theorem ggX2_noRow_X2_isRow : GoodIn wsX2_noRow wsX2_isRow := goodIn_r _ [10] (by decide +kernel) (by decide +kernel)
set_option maxRecDepth 20000 in
theorem gX2_noRow_X2_isRow : GoodIn wsX2_noRow (va_wsS RX2 47 yX2_isRow wsX2_isRow) := goodIn_app (goodIn_of _ (by decide +kernel)) ggX2_noRow_X2_isRow
set_option maxRecDepth 20000 in
theorem ggX2_slide_X2_noHook : GoodIn wsX2_slide wsX2_noHook := goodIn_r _ [8, 9, 10, 7, 11] (by decide +kernel) (by decide +kernel)
set_option maxRecDepth 20000 in
theorem gX2_slide_X2_noHook : GoodIn wsX2_slide (va_wsS RX2 60 yX2_noHook wsX2_noHook) := goodIn_app (goodIn_of _ (by decide +kernel)) ggX2_slide_X2_noHook
set_option maxRecDepth 20000 in
theorem ggX2_slide_X2_fails : GoodIn wsX2_slide wsX2_fails := goodIn_r _ [15, 16, 40, 41, 42, 43, 44, 45, 46, 47, 48] (by decide +kernel) (by decide +kernel)
set_option maxRecDepth 20000 in
theorem gX2_slide_X2_fails : GoodIn wsX2_slide (wsV RX2 63 RX2 yX2_fails wsX2_fails) := goodIn_app (goodIn_of _ (by decide +kernel)) ggX2_slide_X2_fails
set_option maxRecDepth 20000 in
theorem ggX2_slide_X2_noRow : GoodIn wsX2_slide wsX2_noRow := goodIn_r _ [20, 21, 22, 23, 7, 24, 1, 4, 25, 26, 27, 40, 41, 42, 43, 44, 45, 46, 47, 48] (by decide +kernel) (by decide +kernel)
set_option maxRecDepth 20000 in
theorem gX2_slide_X2_noRow : GoodIn wsX2_slide (wsV RX2 95 RX2 yX2_noRow wsX2_noRow) := goodIn_app (goodIn_of _ (by decide +kernel)) ggX2_slide_X2_noRow
set_option maxRecDepth 20000 in
theorem ggX2_slide_X2_sizeOf : GoodIn wsX2_slide wsX2_sizeOf := goodIn_r _ [31, 32, 1, 21, 22, 23, 7, 24, 4, 25, 26, 27, 40, 41, 42, 43, 44, 45, 46, 47, 48] (by decide +kernel) (by decide +kernel)
set_option maxRecDepth 20000 in
theorem gX2_slide_X2_sizeOf : GoodIn wsX2_slide (wsV RX2 78 RX2 yX2_sizeOf wsX2_sizeOf) := goodIn_app (goodIn_of _ (by decide +kernel)) ggX2_slide_X2_sizeOf
set_option maxRecDepth 20000 in
theorem ggX2_slide_X2_outside : GoodIn wsX2_slide wsX2_outside := goodIn_r _ [11] (by decide +kernel) (by decide +kernel)
set_option maxRecDepth 20000 in
theorem gX2_slide_X2_outside : GoodIn wsX2_slide (va_wsS RX2 36 yX2_outside wsX2_outside) := goodIn_app (goodIn_of _ (by decide +kernel)) ggX2_slide_X2_outside
set_option maxRecDepth 20000 in
theorem ggX2_slide_X2_blank : GoodIn wsX2_slide wsX2_blank := goodIn_r _ [35, 36, 37, 38, 7, 39] (by decide +kernel) (by decide +kernel)
set_option maxRecDepth 20000 in
theorem gX2_slide_X2_blank : GoodIn wsX2_slide (va_wsS RX2 71 yX2_blank wsX2_blank) := goodIn_app (goodIn_of _ (by decide +kernel)) ggX2_slide_X2_blank
set_option maxRecDepth 20000 in
theorem ggX2_turn_X2_noHook : GoodIn wsX2_turn wsX2_noHook := goodIn_r _ [7, 8, 9, 6, 10] (by decide +kernel) (by decide +kernel)
set_option maxRecDepth 20000 in
theorem gX2_turn_X2_noHook : GoodIn wsX2_turn (va_wsS RX2 60 yX2_noHook wsX2_noHook) := goodIn_app (goodIn_of _ (by decide +kernel)) ggX2_turn_X2_noHook
set_option maxRecDepth 20000 in
theorem ggX2_turn_X2_fails : GoodIn wsX2_turn wsX2_fails := goodIn_r _ [14, 15, 33, 34, 35, 36, 37, 38, 39, 40, 41] (by decide +kernel) (by decide +kernel)
set_option maxRecDepth 20000 in
theorem gX2_turn_X2_fails : GoodIn wsX2_turn (wsV RX2 63 RX2 yX2_fails wsX2_fails) := goodIn_app (goodIn_of _ (by decide +kernel)) ggX2_turn_X2_fails
set_option maxRecDepth 20000 in
theorem ggX2_turn_X2_noRow : GoodIn wsX2_turn wsX2_noRow := goodIn_r _ [19, 20, 21, 22, 6, 23, 1, 24, 25, 26, 27, 33, 34, 35, 36, 37, 38, 39, 40, 41] (by decide +kernel) (by decide +kernel)
set_option maxRecDepth 20000 in
theorem gX2_turn_X2_noRow : GoodIn wsX2_turn (wsV RX2 95 RX2 yX2_noRow wsX2_noRow) := goodIn_app (goodIn_of _ (by decide +kernel)) ggX2_turn_X2_noRow
set_option maxRecDepth 20000 in
theorem ggX2_turn_X2_sizeOf : GoodIn wsX2_turn wsX2_sizeOf := goodIn_r _ [31, 32, 1, 20, 21, 22, 6, 23, 24, 25, 26, 27, 33, 34, 35, 36, 37, 38, 39, 40, 41] (by decide +kernel) (by decide +kernel)
set_option maxRecDepth 20000 in
theorem gX2_turn_X2_sizeOf : GoodIn wsX2_turn (wsV RX2 78 RX2 yX2_sizeOf wsX2_sizeOf) := goodIn_app (goodIn_of _ (by decide +kernel)) ggX2_turn_X2_sizeOf
set_option maxRecDepth 20000 in
theorem ggX2_turn_X2_outside : GoodIn wsX2_turn wsX2_outside := goodIn_r _ [10] (by decide +kernel) (by decide +kernel)
set_option maxRecDepth 20000 in
theorem gX2_turn_X2_outside : GoodIn wsX2_turn (va_wsS RX2 36 yX2_outside wsX2_outside) := goodIn_app (goodIn_of _ (by decide +kernel)) ggX2_turn_X2_outside
set_option maxRecDepth 20000 in
theorem ggX2_isWrong_X2_makeOf : GoodIn wsX2_isWrong wsX2_makeOf := goodIn_r _ [5, 6, 7, 8, 9, 10, 11, 12, 13, 14, 15, 16] (by decide +kernel) (by decide +kernel)
set_option maxRecDepth 20000 in
theorem gX2_isWrong_X2_makeOf : GoodIn wsX2_isWrong (wsV RX2 43 RX2 yX2_makeOf wsX2_makeOf) := goodIn_app (goodIn_of _ (by decide +kernel)) ggX2_isWrong_X2_makeOf
set_option maxRecDepth 20000 in
theorem ggX2_pay_X2_noHook : GoodIn wsX2_pay wsX2_noHook := goodIn_r _ [8, 9, 10, 7, 11] (by decide +kernel) (by decide +kernel)
set_option maxRecDepth 20000 in
theorem gX2_pay_X2_noHook : GoodIn wsX2_pay (va_wsS RX2 60 yX2_noHook wsX2_noHook) := goodIn_app (goodIn_of _ (by decide +kernel)) ggX2_pay_X2_noHook
set_option maxRecDepth 20000 in
theorem ggX2_pay_X2_fails : GoodIn wsX2_pay wsX2_fails := goodIn_r _ [15, 16, 40, 41, 42, 43, 44, 45, 46, 47, 48] (by decide +kernel) (by decide +kernel)
set_option maxRecDepth 20000 in
theorem gX2_pay_X2_fails : GoodIn wsX2_pay (wsV RX2 63 RX2 yX2_fails wsX2_fails) := goodIn_app (goodIn_of _ (by decide +kernel)) ggX2_pay_X2_fails
set_option maxRecDepth 20000 in
theorem ggX2_pay_X2_makeOf : GoodIn wsX2_pay wsX2_makeOf := goodIn_r _ [20, 1, 21, 40, 41, 42, 43, 44, 45, 46, 47, 48] (by decide +kernel) (by decide +kernel)
set_option maxRecDepth 20000 in
theorem gX2_pay_X2_makeOf : GoodIn wsX2_pay (wsV RX2 43 RX2 yX2_makeOf wsX2_makeOf) := goodIn_app (goodIn_of _ (by decide +kernel)) ggX2_pay_X2_makeOf
set_option maxRecDepth 20000 in
theorem ggX2_pay_X2_isRoster : GoodIn wsX2_pay wsX2_isRoster := goodIn_r _ [24] (by decide +kernel) (by decide +kernel)
set_option maxRecDepth 20000 in
theorem gX2_pay_X2_isRoster : GoodIn wsX2_pay (va_wsS RX2 51 yX2_isRoster wsX2_isRoster) := goodIn_app (goodIn_of _ (by decide +kernel)) ggX2_pay_X2_isRoster
set_option maxRecDepth 20000 in
theorem ggX2_pay_X2_isWrong : GoodIn wsX2_pay wsX2_isWrong := goodIn_r _ [28, 17, 18, 19, 7, 20, 1, 21, 40, 41, 42, 43, 44, 45, 46, 47, 48] (by decide +kernel) (by decide +kernel)
set_option maxRecDepth 20000 in
theorem gX2_pay_X2_isWrong : GoodIn wsX2_pay (wsV RX2 98 RX2 yX2_isWrong wsX2_isWrong) := goodIn_app (goodIn_of _ (by decide +kernel)) ggX2_pay_X2_isWrong
set_option maxRecDepth 20000 in
theorem ggX2_pay_X2_sizeOf : GoodIn wsX2_pay wsX2_sizeOf := goodIn_r _ [32, 33, 1, 17, 18, 19, 7, 20, 21, 34, 35, 36, 40, 41, 42, 43, 44, 45, 46, 47, 48] (by decide +kernel) (by decide +kernel)
set_option maxRecDepth 20000 in
theorem gX2_pay_X2_sizeOf : GoodIn wsX2_pay (wsV RX2 78 RX2 yX2_sizeOf wsX2_sizeOf) := goodIn_app (goodIn_of _ (by decide +kernel)) ggX2_pay_X2_sizeOf
set_option maxRecDepth 20000 in
theorem ggX2_pay_X2_rate : GoodIn wsX2_pay wsX2_rate := goodIn_r _ [39] (by decide +kernel) (by decide +kernel)
set_option maxRecDepth 20000 in
theorem gX2_pay_X2_rate : GoodIn wsX2_pay (va_wsS RX2 102 yX2_rate wsX2_rate) := goodIn_app (goodIn_of _ (by decide +kernel)) ggX2_pay_X2_rate
set_option maxRecDepth 20000 in
theorem ggX2_look_X2_noHook : GoodIn wsX2_look wsX2_noHook := goodIn_r _ [5, 6, 7, 4, 8] (by decide +kernel) (by decide +kernel)
set_option maxRecDepth 20000 in
theorem gX2_look_X2_noHook : GoodIn wsX2_look (va_wsS RX2 60 yX2_noHook wsX2_noHook) := goodIn_app (goodIn_of _ (by decide +kernel)) ggX2_look_X2_noHook
set_option maxRecDepth 20000 in
theorem ggX2_look_X2_fails : GoodIn wsX2_look wsX2_fails := goodIn_r _ [12, 13, 27, 28, 29, 30, 31, 32, 33, 34, 35] (by decide +kernel) (by decide +kernel)
set_option maxRecDepth 20000 in
theorem gX2_look_X2_fails : GoodIn wsX2_look (wsV RX2 63 RX2 yX2_fails wsX2_fails) := goodIn_app (goodIn_of _ (by decide +kernel)) ggX2_look_X2_fails
set_option maxRecDepth 20000 in
theorem ggX2_look_X2_makeOf : GoodIn wsX2_look wsX2_makeOf := goodIn_r _ [17, 1, 18, 27, 28, 29, 30, 31, 32, 33, 34, 35] (by decide +kernel) (by decide +kernel)
set_option maxRecDepth 20000 in
theorem gX2_look_X2_makeOf : GoodIn wsX2_look (wsV RX2 43 RX2 yX2_makeOf wsX2_makeOf) := goodIn_app (goodIn_of _ (by decide +kernel)) ggX2_look_X2_makeOf
set_option maxRecDepth 20000 in
theorem ggX2_look_X2_isRow : GoodIn wsX2_look wsX2_isRow := goodIn_r _ [21] (by decide +kernel) (by decide +kernel)
set_option maxRecDepth 20000 in
theorem gX2_look_X2_isRow : GoodIn wsX2_look (va_wsS RX2 47 yX2_isRow wsX2_isRow) := goodIn_app (goodIn_of _ (by decide +kernel)) ggX2_look_X2_isRow
set_option maxRecDepth 20000 in
theorem ggX2_look_X2_sizeOf : GoodIn wsX2_look wsX2_sizeOf := goodIn_r _ [25, 26, 1, 14, 15, 16, 4, 17, 18, 19, 20, 21, 27, 28, 29, 30, 31, 32, 33, 34, 35] (by decide +kernel) (by decide +kernel)
set_option maxRecDepth 20000 in
theorem gX2_look_X2_sizeOf : GoodIn wsX2_look (wsV RX2 78 RX2 yX2_sizeOf wsX2_sizeOf) := goodIn_app (goodIn_of _ (by decide +kernel)) ggX2_look_X2_sizeOf
set_option maxRecDepth 20000 in
theorem ggX2_at_X2_noHook : GoodIn wsX2_at wsX2_noHook := goodIn_r _ [6, 7, 8, 5, 9] (by decide +kernel) (by decide +kernel)
set_option maxRecDepth 20000 in
theorem gX2_at_X2_noHook : GoodIn wsX2_at (va_wsS RX2 60 yX2_noHook wsX2_noHook) := goodIn_app (goodIn_of _ (by decide +kernel)) ggX2_at_X2_noHook
set_option maxRecDepth 20000 in
theorem ggX2_at_X2_makeOf : GoodIn wsX2_at wsX2_makeOf := goodIn_r _ [13, 2, 14, 28, 29, 30, 31, 32, 33, 34, 35, 36] (by decide +kernel) (by decide +kernel)
set_option maxRecDepth 20000 in
theorem gX2_at_X2_makeOf : GoodIn wsX2_at (wsV RX2 43 RX2 yX2_makeOf wsX2_makeOf) := goodIn_app (goodIn_of _ (by decide +kernel)) ggX2_at_X2_makeOf
set_option maxRecDepth 20000 in
theorem ggX2_at_X2_isRow : GoodIn wsX2_at wsX2_isRow := goodIn_r _ [17] (by decide +kernel) (by decide +kernel)
set_option maxRecDepth 20000 in
theorem gX2_at_X2_isRow : GoodIn wsX2_at (va_wsS RX2 47 yX2_isRow wsX2_isRow) := goodIn_app (goodIn_of _ (by decide +kernel)) ggX2_at_X2_isRow
set_option maxRecDepth 20000 in
theorem ggX2_at_X2_sizeOf : GoodIn wsX2_at wsX2_sizeOf := goodIn_r _ [21, 22, 2, 10, 11, 12, 5, 13, 14, 15, 16, 17, 28, 29, 30, 31, 32, 33, 34, 35, 36] (by decide +kernel) (by decide +kernel)
set_option maxRecDepth 20000 in
theorem gX2_at_X2_sizeOf : GoodIn wsX2_at (wsV RX2 78 RX2 yX2_sizeOf wsX2_sizeOf) := goodIn_app (goodIn_of _ (by decide +kernel)) ggX2_at_X2_sizeOf
set_option maxRecDepth 20000 in
theorem ggX2_at_X2_outside : GoodIn wsX2_at wsX2_outside := goodIn_r _ [9] (by decide +kernel) (by decide +kernel)
set_option maxRecDepth 20000 in
theorem gX2_at_X2_outside : GoodIn wsX2_at (va_wsS RX2 36 yX2_outside wsX2_outside) := goodIn_app (goodIn_of _ (by decide +kernel)) ggX2_at_X2_outside
set_option maxRecDepth 20000 in
theorem ggX2_at_X2_fails : GoodIn wsX2_at wsX2_fails := goodIn_r _ [26, 27, 28, 29, 30, 31, 32, 33, 34, 35, 36] (by decide +kernel) (by decide +kernel)
set_option maxRecDepth 20000 in
theorem gX2_at_X2_fails : GoodIn wsX2_at (wsV RX2 63 RX2 yX2_fails wsX2_fails) := goodIn_app (goodIn_of _ (by decide +kernel)) ggX2_at_X2_fails
set_option maxRecDepth 20000 in
theorem ggX2_stands_X2_isRoster : GoodIn wsX2_stands wsX2_isRoster := goodIn_r _ [8] (by decide +kernel) (by decide +kernel)
set_option maxRecDepth 20000 in
theorem gX2_stands_X2_isRoster : GoodIn wsX2_stands (va_wsS RX2 51 yX2_isRoster wsX2_isRoster) := goodIn_app (goodIn_of _ (by decide +kernel)) ggX2_stands_X2_isRoster
set_option maxRecDepth 20000 in
theorem ggX2_person_X2_noPerson : GoodIn wsX2_person wsX2_noPerson := goodIn_r _ [8, 9, 10, 11, 7, 12, 29, 30, 31, 32, 33, 34, 35, 36, 37] (by decide +kernel) (by decide +kernel)
set_option maxRecDepth 20000 in
theorem gX2_person_X2_noPerson : GoodIn wsX2_person (wsV RX2 75 RX2 yX2_noPerson wsX2_noPerson) := goodIn_app (goodIn_of _ (by decide +kernel)) ggX2_person_X2_noPerson
set_option maxRecDepth 20000 in
theorem ggX2_person_X2_fails : GoodIn wsX2_person wsX2_fails := goodIn_r _ [16, 17, 29, 30, 31, 32, 33, 34, 35, 36, 37] (by decide +kernel) (by decide +kernel)
set_option maxRecDepth 20000 in
theorem gX2_person_X2_fails : GoodIn wsX2_person (wsV RX2 63 RX2 yX2_fails wsX2_fails) := goodIn_app (goodIn_of _ (by decide +kernel)) ggX2_person_X2_fails
set_option maxRecDepth 20000 in
theorem ggX2_person_X2_stands : GoodIn wsX2_person wsX2_stands := goodIn_r _ [21, 22, 23, 24, 25, 26, 27, 7, 28, 29, 30, 31, 32, 33, 34, 35, 36, 37] (by decide +kernel) (by decide +kernel)
set_option maxRecDepth 20000 in
theorem gX2_person_X2_stands : GoodIn wsX2_person (wsV RX2 105 RX2 yX2_stands wsX2_stands) := goodIn_app (goodIn_of _ (by decide +kernel)) ggX2_person_X2_stands
