set_option maxRecDepth 20000 in
theorem ggL_law_X11_sign_C_0 : GoodIn wsC_0 wsX11_sign := (goodIn_ca (goodIn_ca (goodIn_r _ [4, 5, 6, 7, 8, 9, 10, 11, 12, 13, 14, 15, 16] (by decide +kernel) (by decide +kernel)) (goodIn_sub (fun _ h => (List.mem_append_left _ (List.mem_append_left _ (List.mem_append_right _ h)))) gwX11)) (goodIn_sub (fun _ h => (List.mem_append_left _ (List.mem_append_right _ h))) gwX9))
set_option maxRecDepth 20000 in
theorem gL_law_X11_sign_C_0 : GoodIn wsC_0 (wsV RL 26 RX11 yX11_sign wsX11_sign) := goodIn_app (goodIn_of _ (by decide +kernel)) ggL_law_X11_sign_C_0
set_option maxRecDepth 20000 in
theorem ggL_law_X12_sign_C_0 : GoodIn wsC_0 wsX12_sign := (goodIn_ca (goodIn_r _ [21, 22, 23, 24] (by decide +kernel) (by decide +kernel)) (goodIn_sub (fun _ h => (List.mem_append_right _ h)) gwX12))
set_option maxRecDepth 20000 in
theorem gL_law_X12_sign_C_0 : GoodIn wsC_0 (wsV RL 29 RX12 yX12_sign wsX12_sign) := goodIn_app (goodIn_of _ (by decide +kernel)) ggL_law_X12_sign_C_0
set_option maxRecDepth 20000 in
theorem ggL_law_X11_end_C_1 : GoodIn wsC_1 wsX11_end := (goodIn_ca (goodIn_ca (goodIn_r _ [4, 5, 6, 7, 8, 9, 10, 11] (by decide +kernel) (by decide +kernel)) (goodIn_sub (fun _ h => (List.mem_append_left _ (List.mem_append_left _ (List.mem_append_right _ h)))) gwX11)) (goodIn_sub (fun _ h => (List.mem_append_left _ (List.mem_append_right _ h))) gwX9))
set_option maxRecDepth 20000 in
theorem gL_law_X11_end_C_1 : GoodIn wsC_1 (wsV RL 30 RX11 yX11_end wsX11_end) := goodIn_app (goodIn_of _ (by decide +kernel)) ggL_law_X11_end_C_1
set_option maxRecDepth 20000 in
theorem ggL_law_X12_end_C_1 : GoodIn wsC_1 wsX12_end := (goodIn_ca (goodIn_r _ [16, 17, 18, 19, 20, 15, 21] (by decide +kernel) (by decide +kernel)) (goodIn_sub (fun _ h => (List.mem_append_right _ h)) gwX12))
set_option maxRecDepth 20000 in
theorem gL_law_X12_end_C_1 : GoodIn wsC_1 (wsV RL 34 RX12 yX12_end wsX12_end) := goodIn_app (goodIn_of _ (by decide +kernel)) ggL_law_X12_end_C_1
set_option maxRecDepth 20000 in
theorem ggL_law_X11_market_C_2 : GoodIn wsC_2 wsX11_market := (goodIn_ca (goodIn_ca (goodIn_r _ [4, 5, 6, 7, 8, 9, 10, 11, 12, 13, 14, 15, 16, 17, 18, 19, 20, 21, 22] (by decide +kernel) (by decide +kernel)) (goodIn_sub (fun _ h => (List.mem_append_left _ (List.mem_append_left _ (List.mem_append_right _ h)))) gwX11)) (goodIn_sub (fun _ h => (List.mem_append_left _ (List.mem_append_right _ h))) gwX9))
set_option maxRecDepth 20000 in
theorem gL_law_X11_market_C_2 : GoodIn wsC_2 (wsV RL 35 RX11 yX11_market wsX11_market) := goodIn_app (goodIn_of _ (by decide +kernel)) ggL_law_X11_market_C_2
set_option maxRecDepth 20000 in
theorem ggL_law_X12_market_C_2 : GoodIn wsC_2 wsX12_market := (goodIn_ca (goodIn_r _ [27, 28, 29, 30, 31, 32, 33, 34, 26, 35, 36, 37, 38, 39] (by decide +kernel) (by decide +kernel)) (goodIn_sub (fun _ h => (List.mem_append_right _ h)) gwX12))
set_option maxRecDepth 20000 in
theorem gL_law_X12_market_C_2 : GoodIn wsC_2 (wsV RL 39 RX12 yX12_market wsX12_market) := goodIn_app (goodIn_of _ (by decide +kernel)) ggL_law_X12_market_C_2
set_option maxRecDepth 20000 in
theorem ggL_law_X11_rule_C_3 : GoodIn wsC_3 wsX11_rule := (goodIn_ca (goodIn_ca (goodIn_ca (goodIn_ca (goodIn_r _ [4, 5, 6, 7, 8, 9, 10, 11, 12, 13, 14, 15, 16, 17, 18, 19, 20, 21, 22, 23, 24, 25, 26, 27, 28, 29, 30, 31, 32, 33, 34, 35, 36, 37, 38, 39, 40] (by decide +kernel) (by decide +kernel)) (goodIn_sub (fun _ h => (List.mem_append_left _ (List.mem_append_left _ (List.mem_append_left _ (List.mem_append_left _ (List.mem_append_right _ h)))))) gwX11)) (goodIn_sub (fun _ h => (List.mem_append_left _ (List.mem_append_left _ (List.mem_append_left _ (List.mem_append_right _ h))))) gwX6)) (goodIn_sub (fun _ h => (List.mem_append_left _ (List.mem_append_left _ (List.mem_append_right _ h)))) gwX9)) (goodIn_sub (fun _ h => (List.mem_append_left _ (List.mem_append_right _ h))) gwX5))
set_option maxRecDepth 20000 in
theorem gL_law_X11_rule_C_3 : GoodIn wsC_3 (wsV RL 40 RX11 yX11_rule wsX11_rule) := goodIn_app (goodIn_of _ (by decide +kernel)) ggL_law_X11_rule_C_3
set_option maxRecDepth 20000 in
theorem ggL_law_X12_rule_C_3 : GoodIn wsC_3 wsX12_rule := (goodIn_ca (goodIn_r _ [45, 46, 47, 48, 49, 50, 51, 52, 53, 44, 54, 55, 56, 57, 58, 59] (by decide +kernel) (by decide +kernel)) (goodIn_sub (fun _ h => (List.mem_append_right _ h)) gwX12))
set_option maxRecDepth 20000 in
theorem gL_law_X12_rule_C_3 : GoodIn wsC_3 (wsV RL 43 RX12 yX12_rule wsX12_rule) := goodIn_app (goodIn_of _ (by decide +kernel)) ggL_law_X12_rule_C_3
set_option maxRecDepth 20000 in
theorem ggL_law_L_of_C_4 : GoodIn wsC_4 wsL_of := (goodIn_ca (goodIn_ca (goodIn_ca (goodIn_r _ [3, 4, 5, 6, 7, 8, 9, 10, 11, 12, 13, 14, 15, 16, 17, 18] (by decide +kernel) (by decide +kernel)) (goodIn_sub (fun _ h => (List.mem_append_left _ (List.mem_append_left _ (List.mem_append_left _ (List.mem_append_right _ h))))) gwX11)) (goodIn_sub (fun _ h => (List.mem_append_left _ (List.mem_append_left _ (List.mem_append_right _ h)))) gwX2)) (goodIn_sub (fun _ h => (List.mem_append_right _ h)) gwx))
set_option maxRecDepth 20000 in
theorem gL_law_L_of_C_4 : GoodIn wsC_4 (va_wsS RL 44 yL_of wsL_of) := goodIn_app (goodIn_of _ (by decide +kernel)) ggL_law_L_of_C_4
set_option maxRecDepth 20000 in
theorem ggL_law_X12_of_C_4 : GoodIn wsC_4 wsX12_of := (goodIn_ca (goodIn_r _ [23, 24, 25, 26, 27, 22, 28, 29, 30, 31, 32, 33, 34, 35, 36] (by decide +kernel) (by decide +kernel)) (goodIn_sub (fun _ h => (List.mem_append_left _ (List.mem_append_right _ h))) gwX12))
set_option maxRecDepth 20000 in
theorem gL_law_X12_of_C_4 : GoodIn wsC_4 (wsV RL 49 RX12 yX12_of wsX12_of) := goodIn_app (goodIn_of _ (by decide +kernel)) ggL_law_X12_of_C_4
set_option maxRecDepth 20000 in
theorem ggL_law_X12_thrown_C_4 : GoodIn wsC_4 wsX12_thrown := (goodIn_ca (goodIn_r _ [40, 24] (by decide +kernel) (by decide +kernel)) (goodIn_sub (fun _ h => (List.mem_append_left _ (List.mem_append_right _ h))) gwX12))
set_option maxRecDepth 20000 in
theorem gL_law_X12_thrown_C_4 : GoodIn wsC_4 (wsV RL 50 RX12 yX12_thrown wsX12_thrown) := goodIn_app (goodIn_of _ (by decide +kernel)) ggL_law_X12_thrown_C_4
set_option maxRecDepth 20000 in
theorem ggL_law_L_thing_C_5 : GoodIn wsC_5 wsL_thing := (goodIn_ca (goodIn_ca (goodIn_ca (goodIn_r _ [3, 4, 5, 6, 7, 8, 9, 10, 11, 12, 13, 14, 15, 16, 17, 18] (by decide +kernel) (by decide +kernel)) (goodIn_sub (fun _ h => (List.mem_append_left _ (List.mem_append_left _ (List.mem_append_left _ (List.mem_append_right _ h))))) gwX11)) (goodIn_sub (fun _ h => (List.mem_append_left _ (List.mem_append_left _ (List.mem_append_right _ h)))) gwX2)) (goodIn_sub (fun _ h => (List.mem_append_right _ h)) gwx))
set_option maxRecDepth 20000 in
theorem gL_law_L_thing_C_5 : GoodIn wsC_5 (va_wsS RL 53 yL_thing wsL_thing) := goodIn_app (goodIn_of _ (by decide +kernel)) ggL_law_L_thing_C_5
set_option maxRecDepth 20000 in
theorem ggL_law_X12_thing_C_5 : GoodIn wsC_5 wsX12_thing := (goodIn_ca (goodIn_r _ [23, 24, 25, 26, 27, 22, 28, 29, 30, 31, 32, 33, 34, 35, 36] (by decide +kernel) (by decide +kernel)) (goodIn_sub (fun _ h => (List.mem_append_left _ (List.mem_append_right _ h))) gwX12))
set_option maxRecDepth 20000 in
theorem gL_law_X12_thing_C_5 : GoodIn wsC_5 (wsV RL 55 RX12 yX12_thing wsX12_thing) := goodIn_app (goodIn_of _ (by decide +kernel)) ggL_law_X12_thing_C_5
set_option maxRecDepth 20000 in
theorem ggL_law_X12_thrown_C_5 : GoodIn wsC_5 wsX12_thrown := (goodIn_ca (goodIn_r _ [40, 24] (by decide +kernel) (by decide +kernel)) (goodIn_sub (fun _ h => (List.mem_append_left _ (List.mem_append_right _ h))) gwX12))
set_option maxRecDepth 20000 in
theorem gL_law_X12_thrown_C_5 : GoodIn wsC_5 (wsV RL 50 RX12 yX12_thrown wsX12_thrown) := goodIn_app (goodIn_of _ (by decide +kernel)) ggL_law_X12_thrown_C_5
set_option maxRecDepth 20000 in
theorem ggL_law_X11_between_C_6 : GoodIn wsC_6 wsX11_between := (goodIn_ca (goodIn_ca (goodIn_r _ [4, 5, 6, 7, 3, 8, 9, 10, 11, 12, 13, 14, 15] (by decide +kernel) (by decide +kernel)) (goodIn_sub (fun _ h => (List.mem_append_left _ (List.mem_append_left _ (List.mem_append_right _ h)))) gwX11)) (goodIn_sub (fun _ h => (List.mem_append_left _ (List.mem_append_right _ h))) gwX2))
set_option maxRecDepth 20000 in
theorem gL_law_X11_between_C_6 : GoodIn wsC_6 (wsV RL 56 RX11 yX11_between wsX11_between) := goodIn_app (goodIn_of _ (by decide +kernel)) ggL_law_X11_between_C_6
set_option maxRecDepth 20000 in
theorem ggL_law_X12_between_C_6 : GoodIn wsC_6 wsX12_between := (goodIn_ca (goodIn_r _ [20, 21, 22, 23, 24, 19, 25, 26, 27, 28, 29] (by decide +kernel) (by decide +kernel)) (goodIn_sub (fun _ h => (List.mem_append_right _ h)) gwX12))
set_option maxRecDepth 20000 in
theorem gL_law_X12_between_C_6 : GoodIn wsC_6 (wsV RL 60 RX12 yX12_between wsX12_between) := goodIn_app (goodIn_of _ (by decide +kernel)) ggL_law_X12_between_C_6
set_option maxRecDepth 20000 in
theorem ggL_law_X11_law_C_7 : GoodIn wsC_7 wsX11_law := (goodIn_ca (goodIn_ca (goodIn_r _ [4, 5, 6, 7] (by decide +kernel) (by decide +kernel)) (goodIn_sub (fun _ h => (List.mem_append_left _ (List.mem_append_left _ (List.mem_append_right _ h)))) gwX10)) (goodIn_sub (fun _ h => (List.mem_append_left _ (List.mem_append_right _ h))) gwX11))
set_option maxRecDepth 20000 in
theorem gL_law_X11_law_C_7 : GoodIn wsC_7 (wsV RL 61 RX11 yX11_law wsX11_law) := goodIn_app (goodIn_of _ (by decide +kernel)) ggL_law_X11_law_C_7
set_option maxRecDepth 20000 in
theorem ggL_law_X12_law_C_7 : GoodIn wsC_7 wsX12_law := (goodIn_ca (goodIn_r _ [12, 13, 14, 15, 16, 11, 17] (by decide +kernel) (by decide +kernel)) (goodIn_sub (fun _ h => (List.mem_append_right _ h)) gwX12))
set_option maxRecDepth 20000 in
theorem gL_law_X12_law_C_7 : GoodIn wsC_7 (wsV RL 64 RX12 yX12_law wsX12_law) := goodIn_app (goodIn_of _ (by decide +kernel)) ggL_law_X12_law_C_7
set_option maxRecDepth 20000 in
theorem ggL_law_X11_sheet_C_8 : GoodIn wsC_8 wsX11_sheet := (goodIn_ca (goodIn_ca (goodIn_r _ [4, 5, 6, 7, 8, 9, 10, 11, 12] (by decide +kernel) (by decide +kernel)) (goodIn_sub (fun _ h => (List.mem_append_left _ (List.mem_append_left _ (List.mem_append_right _ h)))) gwX11)) (goodIn_sub (fun _ h => (List.mem_append_left _ (List.mem_append_right _ h))) gwX2))
set_option maxRecDepth 20000 in
theorem gL_law_X11_sheet_C_8 : GoodIn wsC_8 (wsV RL 65 RX11 yX11_sheet wsX11_sheet) := goodIn_app (goodIn_of _ (by decide +kernel)) ggL_law_X11_sheet_C_8
set_option maxRecDepth 20000 in
theorem ggL_law_X12_sheet_C_8 : GoodIn wsC_8 wsX12_sheet := (goodIn_ca (goodIn_r _ [17, 18, 19, 20, 21, 16, 22] (by decide +kernel) (by decide +kernel)) (goodIn_sub (fun _ h => (List.mem_append_right _ h)) gwX12))
set_option maxRecDepth 20000 in
theorem gL_law_X12_sheet_C_8 : GoodIn wsC_8 (wsV RL 69 RX12 yX12_sheet wsX12_sheet) := goodIn_app (goodIn_of _ (by decide +kernel)) ggL_law_X12_sheet_C_8
set_option maxRecDepth 20000 in
theorem ggL_law_X11_worth_C_9 : GoodIn wsC_9 wsX11_worth := (goodIn_ca (goodIn_ca (goodIn_r _ [4, 5, 6, 7, 3, 8, 9, 10, 11, 12, 13, 14, 15, 16, 17, 18, 19] (by decide +kernel) (by decide +kernel)) (goodIn_sub (fun _ h => (List.mem_append_left _ (List.mem_append_left _ (List.mem_append_right _ h)))) gwX11)) (goodIn_sub (fun _ h => (List.mem_append_left _ (List.mem_append_right _ h))) gwX2))
set_option maxRecDepth 20000 in
theorem gL_law_X11_worth_C_9 : GoodIn wsC_9 (wsV RL 70 RX11 yX11_worth wsX11_worth) := goodIn_app (goodIn_of _ (by decide +kernel)) ggL_law_X11_worth_C_9
set_option maxRecDepth 20000 in
theorem ggL_law_X12_worth_C_9 : GoodIn wsC_9 wsX12_worth := (goodIn_ca (goodIn_r _ [24, 25, 26, 27, 28, 23, 29, 30, 31, 32, 33] (by decide +kernel) (by decide +kernel)) (goodIn_sub (fun _ h => (List.mem_append_right _ h)) gwX12))
set_option maxRecDepth 20000 in
theorem gL_law_X12_worth_C_9 : GoodIn wsC_9 (wsV RL 73 RX12 yX12_worth wsX12_worth) := goodIn_app (goodIn_of _ (by decide +kernel)) ggL_law_X12_worth_C_9
set_option maxRecDepth 20000 in
theorem ggL_law_X11_can_C_10 : GoodIn wsC_10 wsX11_can := (goodIn_ca (goodIn_ca (goodIn_r _ [4, 5, 6, 7, 3, 8, 9, 10, 11, 12, 13, 14, 15, 16, 17, 18, 19] (by decide +kernel) (by decide +kernel)) (goodIn_sub (fun _ h => (List.mem_append_left _ (List.mem_append_left _ (List.mem_append_right _ h)))) gwX11)) (goodIn_sub (fun _ h => (List.mem_append_left _ (List.mem_append_right _ h))) gwX2))
set_option maxRecDepth 20000 in
theorem gL_law_X11_can_C_10 : GoodIn wsC_10 (wsV RL 74 RX11 yX11_can wsX11_can) := goodIn_app (goodIn_of _ (by decide +kernel)) ggL_law_X11_can_C_10
set_option maxRecDepth 20000 in
theorem ggL_law_X12_can_C_10 : GoodIn wsC_10 wsX12_can := (goodIn_ca (goodIn_r _ [24, 25, 26, 27, 28, 23, 29, 30, 31, 32, 33] (by decide +kernel) (by decide +kernel)) (goodIn_sub (fun _ h => (List.mem_append_right _ h)) gwX12))
set_option maxRecDepth 20000 in
theorem gL_law_X12_can_C_10 : GoodIn wsC_10 (wsV RL 77 RX12 yX12_can wsX12_can) := goodIn_app (goodIn_of _ (by decide +kernel)) ggL_law_X12_can_C_10
set_option maxRecDepth 20000 in
theorem ggL_law_X11_sell_C_11 : GoodIn wsC_11 wsX11_sell := (goodIn_ca (goodIn_ca (goodIn_r _ [4, 5, 6, 7, 3, 8, 9, 10, 11, 12, 13, 14, 15, 16, 17, 18, 19] (by decide +kernel) (by decide +kernel)) (goodIn_sub (fun _ h => (List.mem_append_left _ (List.mem_append_left _ (List.mem_append_right _ h)))) gwX11)) (goodIn_sub (fun _ h => (List.mem_append_left _ (List.mem_append_right _ h))) gwX2))
set_option maxRecDepth 20000 in
theorem gL_law_X11_sell_C_11 : GoodIn wsC_11 (wsV RL 78 RX11 yX11_sell wsX11_sell) := goodIn_app (goodIn_of _ (by decide +kernel)) ggL_law_X11_sell_C_11
set_option maxRecDepth 20000 in
theorem ggL_law_X12_sell_C_11 : GoodIn wsC_11 wsX12_sell := (goodIn_ca (goodIn_r _ [24, 25, 26, 27, 28, 23, 29, 30, 31, 32, 33] (by decide +kernel) (by decide +kernel)) (goodIn_sub (fun _ h => (List.mem_append_right _ h)) gwX12))
set_option maxRecDepth 20000 in
theorem gL_law_X12_sell_C_11 : GoodIn wsC_11 (wsV RL 81 RX12 yX12_sell wsX12_sell) := goodIn_app (goodIn_of _ (by decide +kernel)) ggL_law_X12_sell_C_11
set_option maxRecDepth 20000 in
theorem ggL_law_X11_undo_C_12 : GoodIn wsC_12 wsX11_undo := (goodIn_ca (goodIn_ca (goodIn_r _ [4, 5, 6, 7, 8, 9, 10, 11, 12, 13] (by decide +kernel) (by decide +kernel)) (goodIn_sub (fun _ h => (List.mem_append_left _ (List.mem_append_left _ (List.mem_append_right _ h)))) gwX11)) (goodIn_sub (fun _ h => (List.mem_append_left _ (List.mem_append_right _ h))) gwX4))
set_option maxRecDepth 20000 in
theorem gL_law_X11_undo_C_12 : GoodIn wsC_12 (wsV RL 82 RX11 yX11_undo wsX11_undo) := goodIn_app (goodIn_of _ (by decide +kernel)) ggL_law_X11_undo_C_12
set_option maxRecDepth 20000 in
theorem ggL_law_X12_undo_C_12 : GoodIn wsC_12 wsX12_undo := (goodIn_ca (goodIn_r _ [18, 19, 20] (by decide +kernel) (by decide +kernel)) (goodIn_sub (fun _ h => (List.mem_append_right _ h)) gwX12))
set_option maxRecDepth 20000 in
theorem gL_law_X12_undo_C_12 : GoodIn wsC_12 (wsV RL 85 RX12 yX12_undo wsX12_undo) := goodIn_app (goodIn_of _ (by decide +kernel)) ggL_law_X12_undo_C_12
set_option maxRecDepth 20000 in
theorem ggL_law_X11_judge_C_13 : GoodIn wsC_13 wsX11_judge := (goodIn_ca (goodIn_ca (goodIn_r _ [4, 5, 6, 7, 8, 9, 10, 11, 12, 13, 14, 15, 16, 17, 18, 19, 20, 21, 22, 23, 24, 25, 3, 26, 27, 28, 29, 30, 31, 32, 33, 34, 35, 36, 37, 38, 39, 40, 41, 42, 43, 44, 45] (by decide +kernel) (by decide +kernel)) (goodIn_sub (fun _ h => (List.mem_append_left _ (List.mem_append_left _ (List.mem_append_right _ h)))) gwX11)) (goodIn_sub (fun _ h => (List.mem_append_left _ (List.mem_append_right _ h))) gwX2))
set_option maxRecDepth 20000 in
theorem gL_law_X11_judge_C_13 : GoodIn wsC_13 (wsV RL 86 RX11 yX11_judge wsX11_judge) := goodIn_app (goodIn_of _ (by decide +kernel)) ggL_law_X11_judge_C_13
set_option maxRecDepth 20000 in
theorem ggL_law_X12_judge_C_13 : GoodIn wsC_13 wsX12_judge := (goodIn_ca (goodIn_r _ [50, 51, 52, 53, 54, 55, 49, 56, 57, 58, 59, 60, 61, 62, 63, 64, 65, 66, 67, 68, 69, 70, 71, 72, 73, 74, 75, 76, 77] (by decide +kernel) (by decide +kernel)) (goodIn_sub (fun _ h => (List.mem_append_right _ h)) gwX12))
set_option maxRecDepth 20000 in
theorem gL_law_X12_judge_C_13 : GoodIn wsC_13 (wsV RL 89 RX12 yX12_judge wsX12_judge) := goodIn_app (goodIn_of _ (by decide +kernel)) ggL_law_X12_judge_C_13
set_option maxRecDepth 20000 in
theorem ggL_law_X11_open_C_14 : GoodIn wsC_14 wsX11_open := (goodIn_ca (goodIn_ca (goodIn_ca (goodIn_r _ [4, 5, 6, 7, 8, 9, 10, 11, 12, 13, 14, 15, 16, 17, 18, 19, 20, 21, 22, 23, 24, 3, 25, 26] (by decide +kernel) (by decide +kernel)) (goodIn_sub (fun _ h => (List.mem_append_left _ (List.mem_append_left _ (List.mem_append_left _ (List.mem_append_right _ h))))) gwX10)) (goodIn_sub (fun _ h => (List.mem_append_left _ (List.mem_append_left _ (List.mem_append_right _ h)))) gwX11)) (goodIn_sub (fun _ h => (List.mem_append_left _ (List.mem_append_right _ h))) gwX2))
set_option maxRecDepth 20000 in
theorem gL_law_X11_open_C_14 : GoodIn wsC_14 (wsV RL 90 RX11 yX11_open wsX11_open) := goodIn_app (goodIn_of _ (by decide +kernel)) ggL_law_X11_open_C_14
set_option maxRecDepth 20000 in
theorem ggL_law_X12_open_C_14 : GoodIn wsC_14 wsX12_open := (goodIn_ca (goodIn_r _ [31, 32, 33, 34, 35, 36, 37, 30, 38, 39, 40, 41] (by decide +kernel) (by decide +kernel)) (goodIn_sub (fun _ h => (List.mem_append_right _ h)) gwX12))
set_option maxRecDepth 20000 in
theorem gL_law_X12_open_C_14 : GoodIn wsC_14 (wsV RL 93 RX12 yX12_open wsX12_open) := goodIn_app (goodIn_of _ (by decide +kernel)) ggL_law_X12_open_C_14
set_option maxRecDepth 20000 in
theorem ggL_law_X11_run_C_15 : GoodIn wsC_15 wsX11_run := (goodIn_ca (goodIn_ca (goodIn_ca (goodIn_r _ [4, 5, 6, 7, 8, 9, 10, 11, 12, 13, 14, 15, 16, 17, 18, 19, 20, 21, 22, 23, 24, 3, 25, 26, 27, 28, 29, 30, 31] (by decide +kernel) (by decide +kernel)) (goodIn_sub (fun _ h => (List.mem_append_left _ (List.mem_append_left _ (List.mem_append_left _ (List.mem_append_right _ h))))) gwX10)) (goodIn_sub (fun _ h => (List.mem_append_left _ (List.mem_append_left _ (List.mem_append_right _ h)))) gwX11)) (goodIn_sub (fun _ h => (List.mem_append_left _ (List.mem_append_right _ h))) gwX2))
set_option maxRecDepth 20000 in
theorem gL_law_X11_run_C_15 : GoodIn wsC_15 (wsV RL 94 RX11 yX11_run wsX11_run) := goodIn_app (goodIn_of _ (by decide +kernel)) ggL_law_X11_run_C_15
set_option maxRecDepth 20000 in
theorem ggL_law_X12_run_C_15 : GoodIn wsC_15 wsX12_run := (goodIn_ca (goodIn_r _ [36, 37, 38, 39, 40, 41, 35, 42, 43, 44, 45, 46, 47, 48, 49, 50, 51, 52, 53, 54] (by decide +kernel) (by decide +kernel)) (goodIn_sub (fun _ h => (List.mem_append_right _ h)) gwX12))
set_option maxRecDepth 20000 in
theorem gL_law_X12_run_C_15 : GoodIn wsC_15 (wsV RL 97 RX12 yX12_run wsX12_run) := goodIn_app (goodIn_of _ (by decide +kernel)) ggL_law_X12_run_C_15
set_option maxRecDepth 20000 in
theorem ggL_law_X11_partner_C_16 : GoodIn wsC_16 wsX11_partner := (goodIn_ca (goodIn_ca (goodIn_r _ [4, 5, 6, 7, 3, 8, 9, 10, 11, 12, 13, 14, 15, 16, 17, 18, 19] (by decide +kernel) (by decide +kernel)) (goodIn_sub (fun _ h => (List.mem_append_left _ (List.mem_append_left _ (List.mem_append_right _ h)))) gwX11)) (goodIn_sub (fun _ h => (List.mem_append_left _ (List.mem_append_right _ h))) gwX2))
set_option maxRecDepth 20000 in
theorem gL_law_X11_partner_C_16 : GoodIn wsC_16 (wsV RL 98 RX11 yX11_partner wsX11_partner) := goodIn_app (goodIn_of _ (by decide +kernel)) ggL_law_X11_partner_C_16
set_option maxRecDepth 20000 in
theorem ggL_law_X12_partner_C_16 : GoodIn wsC_16 wsX12_partner := (goodIn_ca (goodIn_r _ [24, 25, 26, 27, 28, 23, 29, 30, 31, 32, 33] (by decide +kernel) (by decide +kernel)) (goodIn_sub (fun _ h => (List.mem_append_right _ h)) gwX12))
set_option maxRecDepth 20000 in
theorem gL_law_X12_partner_C_16 : GoodIn wsC_16 (wsV RL 101 RX12 yX12_partner wsX12_partner) := goodIn_app (goodIn_of _ (by decide +kernel)) ggL_law_X12_partner_C_16
set_option maxRecDepth 20000 in
theorem ggL_law_X11_day_C_17 : GoodIn wsC_17 wsX11_day := (goodIn_ca (goodIn_ca (goodIn_ca (goodIn_r _ [4, 5, 6, 7, 8, 9, 10, 11, 12, 13, 14, 15, 16, 17, 18, 19, 20, 21, 22, 23, 24, 25, 26, 27, 28, 29, 30, 31, 32, 33, 34, 3, 35, 36, 37, 38, 39, 40, 41] (by decide +kernel) (by decide +kernel)) (goodIn_sub (fun _ h => (List.mem_append_left _ (List.mem_append_left _ (List.mem_append_left _ (List.mem_append_right _ h))))) gwX1)) (goodIn_sub (fun _ h => (List.mem_append_left _ (List.mem_append_left _ (List.mem_append_right _ h)))) gwX11)) (goodIn_sub (fun _ h => (List.mem_append_left _ (List.mem_append_right _ h))) gwX2))
set_option maxRecDepth 20000 in
theorem gL_law_X11_day_C_17 : GoodIn wsC_17 (wsV RL 102 RX11 yX11_day wsX11_day) := goodIn_app (goodIn_of _ (by decide +kernel)) ggL_law_X11_day_C_17
set_option maxRecDepth 20000 in
theorem ggL_law_X12_day_C_17 : GoodIn wsC_17 wsX12_day := (goodIn_ca (goodIn_r _ [46, 47, 48, 49, 50, 51, 52, 45, 53, 54, 55, 56, 57, 58, 59] (by decide +kernel) (by decide +kernel)) (goodIn_sub (fun _ h => (List.mem_append_right _ h)) gwX12))
set_option maxRecDepth 20000 in
theorem gL_law_X12_day_C_17 : GoodIn wsC_17 (wsV RL 105 RX12 yX12_day wsX12_day) := goodIn_app (goodIn_of _ (by decide +kernel)) ggL_law_X12_day_C_17
set_option maxRecDepth 20000 in
theorem ggL_law_X11_quarrel_C_18 : GoodIn wsC_18 wsX11_quarrel := (goodIn_ca (goodIn_ca (goodIn_r _ [4, 5, 6, 7, 3, 8, 9, 10, 11, 12, 13, 14, 15] (by decide +kernel) (by decide +kernel)) (goodIn_sub (fun _ h => (List.mem_append_left _ (List.mem_append_left _ (List.mem_append_right _ h)))) gwX11)) (goodIn_sub (fun _ h => (List.mem_append_left _ (List.mem_append_right _ h))) gwX2))
set_option maxRecDepth 20000 in
theorem gL_law_X11_quarrel_C_18 : GoodIn wsC_18 (wsV RL 106 RX11 yX11_quarrel wsX11_quarrel) := goodIn_app (goodIn_of _ (by decide +kernel)) ggL_law_X11_quarrel_C_18
set_option maxRecDepth 20000 in
theorem ggL_law_X12_quarrel_C_18 : GoodIn wsC_18 wsX12_quarrel := (goodIn_ca (goodIn_r _ [20, 21, 22, 23, 24, 19, 25, 26, 27, 28, 29] (by decide +kernel) (by decide +kernel)) (goodIn_sub (fun _ h => (List.mem_append_right _ h)) gwX12))
set_option maxRecDepth 20000 in
theorem gL_law_X12_quarrel_C_18 : GoodIn wsC_18 (wsV RL 109 RX12 yX12_quarrel wsX12_quarrel) := goodIn_app (goodIn_of _ (by decide +kernel)) ggL_law_X12_quarrel_C_18
set_option maxRecDepth 20000 in
theorem ggL_law_X11_bars_C_19 : GoodIn wsC_19 wsX11_bars := (goodIn_ca (goodIn_ca (goodIn_r _ [4, 5, 6, 7, 8, 9, 10, 11] (by decide +kernel) (by decide +kernel)) (goodIn_sub (fun _ h => (List.mem_append_left _ (List.mem_append_left _ (List.mem_append_right _ h)))) gwX11)) (goodIn_sub (fun _ h => (List.mem_append_left _ (List.mem_append_right _ h))) gwX2))
set_option maxRecDepth 20000 in
theorem gL_law_X11_bars_C_19 : GoodIn wsC_19 (wsV RL 110 RX11 yX11_bars wsX11_bars) := goodIn_app (goodIn_of _ (by decide +kernel)) ggL_law_X11_bars_C_19
set_option maxRecDepth 20000 in
theorem ggL_law_X12_bars_C_19 : GoodIn wsC_19 wsX12_bars := (goodIn_ca (goodIn_r _ [16, 17, 18, 19, 20, 15, 21, 22, 23, 24, 25] (by decide +kernel) (by decide +kernel)) (goodIn_sub (fun _ h => (List.mem_append_right _ h)) gwX12))
set_option maxRecDepth 20000 in
theorem gL_law_X12_bars_C_19 : GoodIn wsC_19 (wsV RL 113 RX12 yX12_bars wsX12_bars) := goodIn_app (goodIn_of _ (by decide +kernel)) ggL_law_X12_bars_C_19
set_option maxRecDepth 20000 in
theorem ggL_law_X11_without_C_20 : GoodIn wsC_20 wsX11_without := (goodIn_ca (goodIn_ca (goodIn_r _ [4, 5, 6, 7, 8, 9, 10, 11] (by decide +kernel) (by decide +kernel)) (goodIn_sub (fun _ h => (List.mem_append_left _ (List.mem_append_left _ (List.mem_append_right _ h)))) gwX11)) (goodIn_sub (fun _ h => (List.mem_append_left _ (List.mem_append_right _ h))) gwX2))
set_option maxRecDepth 20000 in
theorem gL_law_X11_without_C_20 : GoodIn wsC_20 (wsV RL 114 RX11 yX11_without wsX11_without) := goodIn_app (goodIn_of _ (by decide +kernel)) ggL_law_X11_without_C_20
set_option maxRecDepth 20000 in
theorem ggL_law_X12_without_C_20 : GoodIn wsC_20 wsX12_without := (goodIn_ca (goodIn_r _ [16, 17, 18, 19, 20, 15, 21, 22, 23, 24, 25] (by decide +kernel) (by decide +kernel)) (goodIn_sub (fun _ h => (List.mem_append_right _ h)) gwX12))
set_option maxRecDepth 20000 in
theorem gL_law_X12_without_C_20 : GoodIn wsC_20 (wsV RL 117 RX12 yX12_without wsX12_without) := goodIn_app (goodIn_of _ (by decide +kernel)) ggL_law_X12_without_C_20
set_option maxRecDepth 20000 in
theorem ggL_law_X11_pair_C_21 : GoodIn wsC_21 wsX11_pair := (goodIn_ca (goodIn_ca (goodIn_r _ [4, 5, 6] (by decide +kernel) (by decide +kernel)) (goodIn_sub (fun _ h => (List.mem_append_left _ (List.mem_append_left _ (List.mem_append_right _ h)))) gwX11)) (goodIn_sub (fun _ h => (List.mem_append_left _ (List.mem_append_right _ h))) gwX2))
set_option maxRecDepth 20000 in
theorem gL_law_X11_pair_C_21 : GoodIn wsC_21 (wsV RL 118 RX11 yX11_pair wsX11_pair) := goodIn_app (goodIn_of _ (by decide +kernel)) ggL_law_X11_pair_C_21
set_option maxRecDepth 20000 in
theorem ggL_law_X12_pair_C_21 : GoodIn wsC_21 wsX12_pair := (goodIn_ca (goodIn_r _ [11, 12, 13] (by decide +kernel) (by decide +kernel)) (goodIn_sub (fun _ h => (List.mem_append_right _ h)) gwX12))
set_option maxRecDepth 20000 in
theorem gL_law_X12_pair_C_21 : GoodIn wsC_21 (wsV RL 121 RX12 yX12_pair wsX12_pair) := goodIn_app (goodIn_of _ (by decide +kernel)) ggL_law_X12_pair_C_21
set_option maxRecDepth 20000 in
theorem ggL_law_X11_wealth_C_22 : GoodIn wsC_22 wsX11_wealth := (goodIn_ca (goodIn_ca (goodIn_r _ [4, 5, 6, 7, 8, 9, 10, 11] (by decide +kernel) (by decide +kernel)) (goodIn_sub (fun _ h => (List.mem_append_left _ (List.mem_append_left _ (List.mem_append_right _ h)))) gwX11)) (goodIn_sub (fun _ h => (List.mem_append_left _ (List.mem_append_right _ h))) gwX2))
set_option maxRecDepth 20000 in
theorem gL_law_X11_wealth_C_22 : GoodIn wsC_22 (wsV RL 122 RX11 yX11_wealth wsX11_wealth) := goodIn_app (goodIn_of _ (by decide +kernel)) ggL_law_X11_wealth_C_22
set_option maxRecDepth 20000 in
theorem ggL_law_X12_wealth_C_22 : GoodIn wsC_22 wsX12_wealth := (goodIn_ca (goodIn_r _ [16, 17, 18, 19, 20, 15, 21, 22, 23, 24, 25] (by decide +kernel) (by decide +kernel)) (goodIn_sub (fun _ h => (List.mem_append_right _ h)) gwX12))
set_option maxRecDepth 20000 in
theorem gL_law_X12_wealth_C_22 : GoodIn wsC_22 (wsV RL 125 RX12 yX12_wealth wsX12_wealth) := goodIn_app (goodIn_of _ (by decide +kernel)) ggL_law_X12_wealth_C_22
set_option maxRecDepth 20000 in
theorem ggL_law_X11_richest_C_23 : GoodIn wsC_23 wsX11_richest := (goodIn_ca (goodIn_ca (goodIn_r _ [4, 5, 6] (by decide +kernel) (by decide +kernel)) (goodIn_sub (fun _ h => (List.mem_append_left _ (List.mem_append_left _ (List.mem_append_right _ h)))) gwX11)) (goodIn_sub (fun _ h => (List.mem_append_left _ (List.mem_append_right _ h))) gwX2))
set_option maxRecDepth 20000 in
theorem gL_law_X11_richest_C_23 : GoodIn wsC_23 (wsV RL 126 RX11 yX11_richest wsX11_richest) := goodIn_app (goodIn_of _ (by decide +kernel)) ggL_law_X11_richest_C_23
set_option maxRecDepth 20000 in
theorem ggL_law_X12_richest_C_23 : GoodIn wsC_23 wsX12_richest := (goodIn_ca (goodIn_r _ [11, 12, 13] (by decide +kernel) (by decide +kernel)) (goodIn_sub (fun _ h => (List.mem_append_right _ h)) gwX12))
set_option maxRecDepth 20000 in
theorem gL_law_X12_richest_C_23 : GoodIn wsC_23 (wsV RL 129 RX12 yX12_richest wsX12_richest) := goodIn_app (goodIn_of _ (by decide +kernel)) ggL_law_X12_richest_C_23
set_option maxRecDepth 20000 in
theorem ggL_law_X11_use_C_24 : GoodIn wsC_24 wsX11_use := (goodIn_ca (goodIn_ca (goodIn_r _ [4, 5, 6, 7, 8, 9, 10, 11] (by decide +kernel) (by decide +kernel)) (goodIn_sub (fun _ h => (List.mem_append_left _ (List.mem_append_left _ (List.mem_append_right _ h)))) gwX11)) (goodIn_sub (fun _ h => (List.mem_append_left _ (List.mem_append_right _ h))) gwX2))
set_option maxRecDepth 20000 in
theorem gL_law_X11_use_C_24 : GoodIn wsC_24 (wsV RL 130 RX11 yX11_use wsX11_use) := goodIn_app (goodIn_of _ (by decide +kernel)) ggL_law_X11_use_C_24
set_option maxRecDepth 20000 in
theorem ggL_law_X12_use_C_24 : GoodIn wsC_24 wsX12_use := (goodIn_ca (goodIn_r _ [16, 17, 18, 19, 20, 15, 21, 22, 23, 24, 25] (by decide +kernel) (by decide +kernel)) (goodIn_sub (fun _ h => (List.mem_append_right _ h)) gwX12))
set_option maxRecDepth 20000 in
theorem gL_law_X12_use_C_24 : GoodIn wsC_24 (wsV RL 133 RX12 yX12_use wsX12_use) := goodIn_app (goodIn_of _ (by decide +kernel)) ggL_law_X12_use_C_24
set_option maxRecDepth 20000 in
theorem ggL_law_X11_days_C_25 : GoodIn wsC_25 wsX11_days := (goodIn_ca (goodIn_ca (goodIn_ca (goodIn_ca (goodIn_r _ [4, 5, 6, 7, 8, 9, 10, 11, 12, 13, 14, 15, 16, 17, 18, 19, 20, 21, 22, 23, 24, 25, 26, 27, 28, 29, 30, 31, 32, 33, 34, 35, 36, 37, 38, 39, 40] (by decide +kernel) (by decide +kernel)) (goodIn_sub (fun _ h => (List.mem_append_left _ (List.mem_append_left _ (List.mem_append_left _ (List.mem_append_left _ (List.mem_append_right _ h)))))) gwX11)) (goodIn_sub (fun _ h => (List.mem_append_left _ (List.mem_append_left _ (List.mem_append_left _ (List.mem_append_right _ h))))) gwX2)) (goodIn_sub (fun _ h => (List.mem_append_left _ (List.mem_append_left _ (List.mem_append_right _ h)))) gwX4)) (goodIn_sub (fun _ h => (List.mem_append_left _ (List.mem_append_right _ h))) gwX1))
set_option maxRecDepth 20000 in
theorem gL_law_X11_days_C_25 : GoodIn wsC_25 (wsV RL 134 RX11 yX11_days wsX11_days) := goodIn_app (goodIn_of _ (by decide +kernel)) ggL_law_X11_days_C_25
set_option maxRecDepth 20000 in
theorem ggL_law_X12_days_C_25 : GoodIn wsC_25 wsX12_days := (goodIn_ca (goodIn_r _ [45, 46, 47, 48, 49, 50, 51, 52, 44, 53, 54, 55, 56, 57, 58] (by decide +kernel) (by decide +kernel)) (goodIn_sub (fun _ h => (List.mem_append_right _ h)) gwX12))
set_option maxRecDepth 20000 in
theorem gL_law_X12_days_C_25 : GoodIn wsC_25 (wsV RL 137 RX12 yX12_days wsX12_days) := goodIn_app (goodIn_of _ (by decide +kernel)) ggL_law_X12_days_C_25
set_option maxRecDepth 20000 in
theorem ggL_law_X11_feast_C_26 : GoodIn wsC_26 wsX11_feast := (goodIn_ca (goodIn_ca (goodIn_r _ [4, 5, 6, 7, 8, 9, 10, 11, 12, 13, 14, 15, 16, 17, 18, 19, 20, 21, 22, 23] (by decide +kernel) (by decide +kernel)) (goodIn_sub (fun _ h => (List.mem_append_left _ (List.mem_append_left _ (List.mem_append_right _ h)))) gwX11)) (goodIn_sub (fun _ h => (List.mem_append_left _ (List.mem_append_right _ h))) gwX2))
set_option maxRecDepth 20000 in
theorem gL_law_X11_feast_C_26 : GoodIn wsC_26 (wsV RL 138 RX11 yX11_feast wsX11_feast) := goodIn_app (goodIn_of _ (by decide +kernel)) ggL_law_X11_feast_C_26
set_option maxRecDepth 20000 in
theorem ggL_law_X12_feast_C_26 : GoodIn wsC_26 wsX12_feast := (goodIn_ca (goodIn_r _ [28, 29, 30, 31, 32, 27, 33, 34, 35, 36, 37, 38, 39, 40, 41] (by decide +kernel) (by decide +kernel)) (goodIn_sub (fun _ h => (List.mem_append_right _ h)) gwX12))
set_option maxRecDepth 20000 in
theorem gL_law_X12_feast_C_26 : GoodIn wsC_26 (wsV RL 141 RX12 yX12_feast wsX12_feast) := goodIn_app (goodIn_of _ (by decide +kernel)) ggL_law_X12_feast_C_26
set_option maxRecDepth 20000 in
theorem ggL_law_X11_prepare_C_27 : GoodIn wsC_27 wsX11_prepare := (goodIn_ca (goodIn_ca (goodIn_ca (goodIn_ca (goodIn_r _ [4, 5, 6, 7, 8, 9, 10, 11, 12, 13, 14, 15, 16, 17, 18, 3, 19, 20, 21, 22, 23, 24, 25, 26, 27, 28, 29, 30, 31, 32, 33, 34, 35, 36, 37, 38, 39, 40, 41, 42, 43, 44, 45, 46, 47, 48, 49, 50, 51, 52, 53, 54, 55, 56, 57, 58, 59, 60, 61, 62, 63, 64, 65, 66, 67, 68, 69, 70, 71, 72, 73, 74, 75, 76, 77, 78, 79, 80, 81, 82, 83, 84, 85, 86, 87, 88, 89, 90, 91, 92, 93, 94, 95, 96, 97, 98, 99, 100, 101, 102, 103, 104, 105, 106, 107, 108, 109, 110, 111, 112, 113, 114, 115, 116, 117, 118, 119, 120, 121, 122, 123, 124, 125, 126, 127, 128, 129, 130, 131, 132, 133, 134, 135, 136, 137, 138, 139, 140, 141] (by decide +kernel) (by decide +kernel)) (goodIn_sub (fun _ h => (List.mem_append_left _ (List.mem_append_left _ (List.mem_append_left _ (List.mem_append_left _ (List.mem_append_right _ h)))))) gwX11)) (goodIn_sub (fun _ h => (List.mem_append_left _ (List.mem_append_left _ (List.mem_append_left _ (List.mem_append_right _ h))))) gwX2)) (goodIn_sub (fun _ h => (List.mem_append_left _ (List.mem_append_left _ (List.mem_append_right _ h)))) gwX7)) (goodIn_sub (fun _ h => (List.mem_append_left _ (List.mem_append_right _ h))) gwX8))
set_option maxRecDepth 20000 in
theorem gL_law_X11_prepare_C_27 : GoodIn wsC_27 (wsV RL 142 RX11 yX11_prepare wsX11_prepare) := goodIn_app (goodIn_of _ (by decide +kernel)) ggL_law_X11_prepare_C_27
set_option maxRecDepth 20000 in
theorem ggL_law_X12_prepare_C_27 : GoodIn wsC_27 wsX12_prepare := (goodIn_ca (goodIn_r _ [146, 147, 148, 149, 150, 151, 152, 153, 154, 145, 155, 156, 157, 158, 159, 160, 161, 162, 163, 164, 165, 166, 167, 168, 169, 170, 171, 172, 173, 174, 175, 176, 177, 178, 179, 180, 181, 182, 183, 184, 185, 186, 187, 188, 189, 190, 191, 192, 193, 194, 195] (by decide +kernel) (by decide +kernel)) (goodIn_sub (fun _ h => (List.mem_append_right _ h)) gwX12))
set_option maxRecDepth 20000 in
theorem gL_law_X12_prepare_C_27 : GoodIn wsC_27 (wsV RL 145 RX12 yX12_prepare wsX12_prepare) := goodIn_app (goodIn_of _ (by decide +kernel)) ggL_law_X12_prepare_C_27
set_option maxRecDepth 20000 in
theorem ggL_law_X11_maySwap_C_28 : GoodIn wsC_28 wsX11_maySwap := (goodIn_ca (goodIn_ca (goodIn_r _ [4, 5, 6, 7, 3, 8, 9, 10, 11, 12, 13, 14, 15, 16, 17, 18, 19] (by decide +kernel) (by decide +kernel)) (goodIn_sub (fun _ h => (List.mem_append_left _ (List.mem_append_left _ (List.mem_append_right _ h)))) gwX11)) (goodIn_sub (fun _ h => (List.mem_append_left _ (List.mem_append_right _ h))) gwX2))
set_option maxRecDepth 20000 in
theorem gL_law_X11_maySwap_C_28 : GoodIn wsC_28 (wsV RL 146 RX11 yX11_maySwap wsX11_maySwap) := goodIn_app (goodIn_of _ (by decide +kernel)) ggL_law_X11_maySwap_C_28
set_option maxRecDepth 20000 in
theorem ggL_law_X12_maySwap_C_28 : GoodIn wsC_28 wsX12_maySwap := (goodIn_ca (goodIn_r _ [24, 25, 26, 27, 28, 23, 29, 30, 31, 32, 33, 34, 35, 36, 37] (by decide +kernel) (by decide +kernel)) (goodIn_sub (fun _ h => (List.mem_append_right _ h)) gwX12))
set_option maxRecDepth 20000 in
theorem gL_law_X12_maySwap_C_28 : GoodIn wsC_28 (wsV RL 149 RX12 yX12_maySwap wsX12_maySwap) := goodIn_app (goodIn_of _ (by decide +kernel)) ggL_law_X12_maySwap_C_28
set_option maxRecDepth 20000 in
theorem ggL_law_X11_swap_C_29 : GoodIn wsC_29 wsX11_swap := (goodIn_ca (goodIn_ca (goodIn_r _ [4, 5, 6, 7, 3, 8, 9, 10, 11, 12, 13, 14, 15, 16, 17, 18, 19] (by decide +kernel) (by decide +kernel)) (goodIn_sub (fun _ h => (List.mem_append_left _ (List.mem_append_left _ (List.mem_append_right _ h)))) gwX11)) (goodIn_sub (fun _ h => (List.mem_append_left _ (List.mem_append_right _ h))) gwX2))
set_option maxRecDepth 20000 in
theorem gL_law_X11_swap_C_29 : GoodIn wsC_29 (wsV RL 150 RX11 yX11_swap wsX11_swap) := goodIn_app (goodIn_of _ (by decide +kernel)) ggL_law_X11_swap_C_29
set_option maxRecDepth 20000 in
theorem ggL_law_X12_swap_C_29 : GoodIn wsC_29 wsX12_swap := (goodIn_ca (goodIn_r _ [24, 25, 26, 27, 28, 23, 29, 30, 31, 32, 33, 34, 35, 36, 37] (by decide +kernel) (by decide +kernel)) (goodIn_sub (fun _ h => (List.mem_append_right _ h)) gwX12))
set_option maxRecDepth 20000 in
theorem gL_law_X12_swap_C_29 : GoodIn wsC_29 (wsV RL 153 RX12 yX12_swap wsX12_swap) := goodIn_app (goodIn_of _ (by decide +kernel)) ggL_law_X12_swap_C_29
set_option maxRecDepth 20000 in
theorem ggL_law_X11_good_C_30 : GoodIn wsC_30 wsX11_good := (goodIn_ca (goodIn_ca (goodIn_r _ [4, 5, 6, 7, 8, 9, 10, 11, 12, 13, 14, 15, 16, 17, 18, 19, 20, 3, 21, 22] (by decide +kernel) (by decide +kernel)) (goodIn_sub (fun _ h => (List.mem_append_left _ (List.mem_append_left _ (List.mem_append_right _ h)))) gwX11)) (goodIn_sub (fun _ h => (List.mem_append_left _ (List.mem_append_right _ h))) gwX2))
set_option maxRecDepth 20000 in
theorem gL_law_X11_good_C_30 : GoodIn wsC_30 (wsV RL 154 RX11 yX11_good wsX11_good) := goodIn_app (goodIn_of _ (by decide +kernel)) ggL_law_X11_good_C_30
set_option maxRecDepth 20000 in
theorem ggL_law_X12_good_C_30 : GoodIn wsC_30 wsX12_good := (goodIn_ca (goodIn_r _ [27, 28, 29, 30, 31, 32, 26, 33, 34, 35] (by decide +kernel) (by decide +kernel)) (goodIn_sub (fun _ h => (List.mem_append_right _ h)) gwX12))
set_option maxRecDepth 20000 in
theorem gL_law_X12_good_C_30 : GoodIn wsC_30 (wsV RL 157 RX12 yX12_good wsX12_good) := goodIn_app (goodIn_of _ (by decide +kernel)) ggL_law_X12_good_C_30
set_option maxRecDepth 20000 in
theorem ggL_law_X11_rests_C_31 : GoodIn wsC_31 wsX11_rests := (goodIn_ca (goodIn_ca (goodIn_r _ [4, 5, 6, 7, 8, 9, 10, 11, 12, 13, 14, 15, 16, 17, 18, 19, 20, 3, 21, 22, 23, 24, 25, 26, 27, 28, 29, 30, 31, 32, 33, 34, 35, 36, 37, 38, 39, 40, 41, 42] (by decide +kernel) (by decide +kernel)) (goodIn_sub (fun _ h => (List.mem_append_left _ (List.mem_append_left _ (List.mem_append_right _ h)))) gwX11)) (goodIn_sub (fun _ h => (List.mem_append_left _ (List.mem_append_right _ h))) gwX2))
set_option maxRecDepth 20000 in
theorem gL_law_X11_rests_C_31 : GoodIn wsC_31 (wsV RL 158 RX11 yX11_rests wsX11_rests) := goodIn_app (goodIn_of _ (by decide +kernel)) ggL_law_X11_rests_C_31
set_option maxRecDepth 20000 in
theorem ggL_law_X12_rests_C_31 : GoodIn wsC_31 wsX12_rests := (goodIn_ca (goodIn_r _ [47, 48, 49, 50, 51, 46, 52, 53, 54, 55, 56, 57, 58, 59, 60, 61, 62, 63, 64, 65, 66, 67, 68, 37, 38, 39, 40, 41, 42] (by decide +kernel) (by decide +kernel)) (goodIn_sub (fun _ h => (List.mem_append_right _ h)) gwX12))
set_option maxRecDepth 20000 in
theorem gL_law_X12_rests_C_31 : GoodIn wsC_31 (wsV RL 161 RX12 yX12_rests wsX12_rests) := goodIn_app (goodIn_of _ (by decide +kernel)) ggL_law_X12_rests_C_31
set_option maxRecDepth 20000 in
theorem ggL_law_X11_friends_C_32 : GoodIn wsC_32 wsX11_friends := (goodIn_ca (goodIn_ca (goodIn_ca (goodIn_ca (goodIn_r _ [4, 5, 6, 7, 8, 9, 3, 10, 11, 12, 13, 14, 15, 16, 17, 18, 19, 20, 21, 22, 23, 24, 25, 26, 27, 28, 29, 30, 31, 32, 33, 34, 35, 36, 37, 38, 39, 40, 41, 42, 43, 44, 45, 46, 47, 48, 49, 50, 51, 52, 53, 54, 55, 56, 57, 58, 59, 60, 61, 62, 63, 64, 65, 66, 67, 68, 69, 70, 71, 72, 73, 74, 75, 76, 77, 78, 79, 80, 81, 82, 83, 84, 85, 86, 87, 88, 89, 90, 91, 92, 93, 94, 95, 96, 97, 98, 99, 100, 101, 102, 103, 104, 105, 106, 107, 108, 109, 110, 111, 112, 113, 114, 115, 116, 117, 118, 119, 120, 121, 122, 123, 124, 125, 126, 127, 128, 129, 130, 131, 132, 133, 134, 135, 136, 137, 138, 139, 140, 141, 142, 143, 144, 145, 146, 147] (by decide +kernel) (by decide +kernel)) (goodIn_sub (fun _ h => (List.mem_append_left _ (List.mem_append_left _ (List.mem_append_left _ (List.mem_append_left _ (List.mem_append_right _ h)))))) gwX11)) (goodIn_sub (fun _ h => (List.mem_append_left _ (List.mem_append_left _ (List.mem_append_left _ (List.mem_append_right _ h))))) gwX7)) (goodIn_sub (fun _ h => (List.mem_append_left _ (List.mem_append_left _ (List.mem_append_right _ h)))) gwX8)) (goodIn_sub (fun _ h => (List.mem_append_left _ (List.mem_append_right _ h))) gwX2))
set_option maxRecDepth 20000 in
theorem gL_law_X11_friends_C_32 : GoodIn wsC_32 (wsV RL 162 RX11 yX11_friends wsX11_friends) := goodIn_app (goodIn_of _ (by decide +kernel)) ggL_law_X11_friends_C_32
set_option maxRecDepth 20000 in
theorem ggL_law_X12_friends_C_32 : GoodIn wsC_32 wsX12_friends := (goodIn_ca (goodIn_r _ [152, 153, 154, 155, 156, 157, 158, 159, 151, 160, 161, 162, 163, 164, 165, 166, 167, 168, 169, 170, 171, 172, 173, 174, 175, 176, 177, 178, 179, 180, 181, 182, 183, 184, 185, 186, 187, 188, 189, 190, 191, 192, 193, 194, 195, 124, 125, 126, 127, 128, 129, 196, 197, 198, 199, 200, 201, 202, 203, 204] (by decide +kernel) (by decide +kernel)) (goodIn_sub (fun _ h => (List.mem_append_right _ h)) gwX12))
set_option maxRecDepth 20000 in
theorem gL_law_X12_friends_C_32 : GoodIn wsC_32 (wsV RL 165 RX12 yX12_friends wsX12_friends) := goodIn_app (goodIn_of _ (by decide +kernel)) ggL_law_X12_friends_C_32
set_option maxRecDepth 20000 in
theorem ggL_law_X11_states_C_33 : GoodIn wsC_33 wsX11_states := (goodIn_ca (goodIn_ca (goodIn_ca (goodIn_ca (goodIn_ca (goodIn_r _ [4, 5, 6, 7, 8, 9, 3, 10, 11, 12, 13, 14, 15, 16, 17, 18, 19, 20, 21, 22, 23, 24, 25, 26, 27, 28, 29, 30, 31, 32, 33, 34, 35, 36, 37, 38, 39, 40, 41, 42, 43, 44, 45, 46, 47, 48, 49, 50, 51, 52, 53, 54, 55, 56, 57, 58, 59, 60, 61, 62, 63, 64, 65, 66, 67, 68, 69, 70, 71, 72, 73, 74, 75, 76, 77, 78, 79, 80, 81, 82, 83, 84, 85, 86, 87, 88, 89, 90, 91, 92, 93, 94, 95, 96, 97, 98, 99, 100, 101, 102, 103, 104, 105, 106, 107, 108, 109, 110, 111, 112, 113, 114, 115, 116, 117, 118, 119, 120, 121, 122, 123, 124, 125, 126, 127, 128, 129, 130, 131, 132, 133, 134, 135, 136, 137, 138, 139, 140, 141, 142, 143, 144, 145, 146, 147, 148, 149, 150, 151, 152, 153, 154, 155, 156, 157, 158, 159] (by decide +kernel) (by decide +kernel)) (goodIn_sub (fun _ h => (List.mem_append_left _ (List.mem_append_left _ (List.mem_append_left _ (List.mem_append_left _ (List.mem_append_left _ (List.mem_append_right _ h))))))) gwX11)) (goodIn_sub (fun _ h => (List.mem_append_left _ (List.mem_append_left _ (List.mem_append_left _ (List.mem_append_left _ (List.mem_append_right _ h)))))) gwX7)) (goodIn_sub (fun _ h => (List.mem_append_left _ (List.mem_append_left _ (List.mem_append_left _ (List.mem_append_right _ h))))) gwX8)) (goodIn_sub (fun _ h => (List.mem_append_left _ (List.mem_append_left _ (List.mem_append_right _ h)))) gwX2)) (goodIn_sub (fun _ h => (List.mem_append_left _ (List.mem_append_right _ h))) gwX1))
set_option maxRecDepth 20000 in
theorem gL_law_X11_states_C_33 : GoodIn wsC_33 (wsV RL 166 RX11 yX11_states wsX11_states) := goodIn_app (goodIn_of _ (by decide +kernel)) ggL_law_X11_states_C_33
set_option maxRecDepth 20000 in
theorem ggL_law_X12_states_C_33 : GoodIn wsC_33 wsX12_states := (goodIn_ca (goodIn_r _ [164, 165, 166, 167, 168, 169, 170, 171, 172, 173, 174, 175, 163, 176, 177, 178, 179, 180, 181, 182, 183, 184, 185, 186, 187, 188, 189, 190, 191, 192, 193, 194, 195, 196, 197, 198, 199, 200, 201, 202, 203, 204, 205, 206, 207, 208, 209, 210, 211, 212, 213, 214, 215, 216, 217, 218, 219, 220, 221] (by decide +kernel) (by decide +kernel)) (goodIn_sub (fun _ h => (List.mem_append_right _ h)) gwX12))
set_option maxRecDepth 20000 in
theorem gL_law_X12_states_C_33 : GoodIn wsC_33 (wsV RL 169 RX12 yX12_states wsX12_states) := goodIn_app (goodIn_of _ (by decide +kernel)) ggL_law_X12_states_C_33
set_option maxRecDepth 20000 in
theorem ggL_law_X11_estate_C_34 : GoodIn wsC_34 wsX11_estate := (goodIn_ca (goodIn_ca (goodIn_r _ [4, 5, 6, 7, 8, 9, 10, 11] (by decide +kernel) (by decide +kernel)) (goodIn_sub (fun _ h => (List.mem_append_left _ (List.mem_append_left _ (List.mem_append_right _ h)))) gwX11)) (goodIn_sub (fun _ h => (List.mem_append_left _ (List.mem_append_right _ h))) gwX2))
set_option maxRecDepth 20000 in
theorem gL_law_X11_estate_C_34 : GoodIn wsC_34 (wsV RL 170 RX11 yX11_estate wsX11_estate) := goodIn_app (goodIn_of _ (by decide +kernel)) ggL_law_X11_estate_C_34
set_option maxRecDepth 20000 in
theorem ggL_law_X12_estate_C_34 : GoodIn wsC_34 wsX12_estate := (goodIn_ca (goodIn_r _ [16, 17, 18, 19, 20, 15, 21, 22, 23, 24, 25] (by decide +kernel) (by decide +kernel)) (goodIn_sub (fun _ h => (List.mem_append_right _ h)) gwX12))
set_option maxRecDepth 20000 in
theorem gL_law_X12_estate_C_34 : GoodIn wsC_34 (wsV RL 173 RX12 yX12_estate wsX12_estate) := goodIn_app (goodIn_of _ (by decide +kernel)) ggL_law_X12_estate_C_34
set_option maxRecDepth 20000 in
theorem ggL_law_X11_greedy_C_35 : GoodIn wsC_35 wsX11_greedy := (goodIn_ca (goodIn_ca (goodIn_r _ [4, 5, 6, 7, 8, 9, 10, 11] (by decide +kernel) (by decide +kernel)) (goodIn_sub (fun _ h => (List.mem_append_left _ (List.mem_append_left _ (List.mem_append_right _ h)))) gwX11)) (goodIn_sub (fun _ h => (List.mem_append_left _ (List.mem_append_right _ h))) gwX2))
set_option maxRecDepth 20000 in
theorem gL_law_X11_greedy_C_35 : GoodIn wsC_35 (wsV RL 174 RX11 yX11_greedy wsX11_greedy) := goodIn_app (goodIn_of _ (by decide +kernel)) ggL_law_X11_greedy_C_35
set_option maxRecDepth 20000 in
theorem ggL_law_X12_greedy_C_35 : GoodIn wsC_35 wsX12_greedy := (goodIn_ca (goodIn_r _ [16, 17, 18, 19, 20, 15, 21, 22, 23, 24, 25] (by decide +kernel) (by decide +kernel)) (goodIn_sub (fun _ h => (List.mem_append_right _ h)) gwX12))
set_option maxRecDepth 20000 in
theorem gL_law_X12_greedy_C_35 : GoodIn wsC_35 (wsV RL 177 RX12 yX12_greedy wsX12_greedy) := goodIn_app (goodIn_of _ (by decide +kernel)) ggL_law_X12_greedy_C_35
set_option maxRecDepth 20000 in
theorem ggL_law_X11_told_C_36 : GoodIn wsC_36 wsX11_told := (goodIn_ca (goodIn_ca (goodIn_r _ [4, 5, 6, 7, 8, 9, 10, 11] (by decide +kernel) (by decide +kernel)) (goodIn_sub (fun _ h => (List.mem_append_left _ (List.mem_append_left _ (List.mem_append_right _ h)))) gwX11)) (goodIn_sub (fun _ h => (List.mem_append_left _ (List.mem_append_right _ h))) gwX2))
set_option maxRecDepth 20000 in
theorem gL_law_X11_told_C_36 : GoodIn wsC_36 (wsV RL 178 RX11 yX11_told wsX11_told) := goodIn_app (goodIn_of _ (by decide +kernel)) ggL_law_X11_told_C_36
set_option maxRecDepth 20000 in
theorem ggL_law_X12_told_C_36 : GoodIn wsC_36 wsX12_told := (goodIn_ca (goodIn_r _ [16, 17, 18, 19, 20, 15, 21, 22, 23, 24, 25] (by decide +kernel) (by decide +kernel)) (goodIn_sub (fun _ h => (List.mem_append_right _ h)) gwX12))
set_option maxRecDepth 20000 in
theorem gL_law_X12_told_C_36 : GoodIn wsC_36 (wsV RL 181 RX12 yX12_told wsX12_told) := goodIn_app (goodIn_of _ (by decide +kernel)) ggL_law_X12_told_C_36
set_option maxRecDepth 20000 in
theorem ggL_law_X11_explains_C_37 : GoodIn wsC_37 wsX11_explains := (goodIn_ca (goodIn_ca (goodIn_r _ [4, 5, 6, 7, 8, 9, 10, 11] (by decide +kernel) (by decide +kernel)) (goodIn_sub (fun _ h => (List.mem_append_left _ (List.mem_append_left _ (List.mem_append_right _ h)))) gwX11)) (goodIn_sub (fun _ h => (List.mem_append_left _ (List.mem_append_right _ h))) gwX2))
set_option maxRecDepth 20000 in
theorem gL_law_X11_explains_C_37 : GoodIn wsC_37 (wsV RL 182 RX11 yX11_explains wsX11_explains) := goodIn_app (goodIn_of _ (by decide +kernel)) ggL_law_X11_explains_C_37
set_option maxRecDepth 20000 in
theorem ggL_law_X12_explains_C_37 : GoodIn wsC_37 wsX12_explains := (goodIn_ca (goodIn_r _ [16, 17, 18, 19, 20, 15, 21, 22, 23, 24, 25] (by decide +kernel) (by decide +kernel)) (goodIn_sub (fun _ h => (List.mem_append_right _ h)) gwX12))
set_option maxRecDepth 20000 in
theorem gL_law_X12_explains_C_37 : GoodIn wsC_37 (wsV RL 185 RX12 yX12_explains wsX12_explains) := goodIn_app (goodIn_of _ (by decide +kernel)) ggL_law_X12_explains_C_37
set_option maxRecDepth 20000 in
theorem ggL_law_X11_steady_C_38 : GoodIn wsC_38 wsX11_steady := (goodIn_ca (goodIn_ca (goodIn_r _ [4, 5, 6, 7, 8, 9, 10, 11] (by decide +kernel) (by decide +kernel)) (goodIn_sub (fun _ h => (List.mem_append_left _ (List.mem_append_left _ (List.mem_append_right _ h)))) gwX11)) (goodIn_sub (fun _ h => (List.mem_append_left _ (List.mem_append_right _ h))) gwX2))
set_option maxRecDepth 20000 in
theorem gL_law_X11_steady_C_38 : GoodIn wsC_38 (wsV RL 186 RX11 yX11_steady wsX11_steady) := goodIn_app (goodIn_of _ (by decide +kernel)) ggL_law_X11_steady_C_38
set_option maxRecDepth 20000 in
theorem ggL_law_X12_steady_C_38 : GoodIn wsC_38 wsX12_steady := (goodIn_ca (goodIn_r _ [16, 17, 18, 19, 20, 15, 21, 22, 23, 24, 25] (by decide +kernel) (by decide +kernel)) (goodIn_sub (fun _ h => (List.mem_append_right _ h)) gwX12))
set_option maxRecDepth 20000 in
theorem gL_law_X12_steady_C_38 : GoodIn wsC_38 (wsV RL 189 RX12 yX12_steady wsX12_steady) := goodIn_app (goodIn_of _ (by decide +kernel)) ggL_law_X12_steady_C_38
set_option maxRecDepth 20000 in
theorem ggL_law_X11_bear_C_39 : GoodIn wsC_39 wsX11_bear := (goodIn_ca (goodIn_ca (goodIn_r _ [4, 5, 6, 7, 8, 9, 10, 11] (by decide +kernel) (by decide +kernel)) (goodIn_sub (fun _ h => (List.mem_append_left _ (List.mem_append_left _ (List.mem_append_right _ h)))) gwX11)) (goodIn_sub (fun _ h => (List.mem_append_left _ (List.mem_append_right _ h))) gwX2))
set_option maxRecDepth 20000 in
theorem gL_law_X11_bear_C_39 : GoodIn wsC_39 (wsV RL 190 RX11 yX11_bear wsX11_bear) := goodIn_app (goodIn_of _ (by decide +kernel)) ggL_law_X11_bear_C_39
set_option maxRecDepth 20000 in
theorem ggL_law_X12_bear_C_39 : GoodIn wsC_39 wsX12_bear := (goodIn_ca (goodIn_r _ [16, 17, 18, 19, 20, 15, 21, 22, 23, 24, 25] (by decide +kernel) (by decide +kernel)) (goodIn_sub (fun _ h => (List.mem_append_right _ h)) gwX12))
set_option maxRecDepth 20000 in
theorem gL_law_X12_bear_C_39 : GoodIn wsC_39 (wsV RL 193 RX12 yX12_bear wsX12_bear) := goodIn_app (goodIn_of _ (by decide +kernel)) ggL_law_X12_bear_C_39
set_option maxRecDepth 20000 in
theorem ggL_law_X11_today_C_40 : GoodIn wsC_40 wsX11_today := (goodIn_ca (goodIn_ca (goodIn_r _ [4, 5, 6] (by decide +kernel) (by decide +kernel)) (goodIn_sub (fun _ h => (List.mem_append_left _ (List.mem_append_left _ (List.mem_append_right _ h)))) gwX11)) (goodIn_sub (fun _ h => (List.mem_append_left _ (List.mem_append_right _ h))) gwX2))
set_option maxRecDepth 20000 in
theorem gL_law_X11_today_C_40 : GoodIn wsC_40 (wsV RL 194 RX11 yX11_today wsX11_today) := goodIn_app (goodIn_of _ (by decide +kernel)) ggL_law_X11_today_C_40
set_option maxRecDepth 20000 in
theorem ggL_law_X12_today_C_40 : GoodIn wsC_40 wsX12_today := (goodIn_ca (goodIn_r _ [11, 12, 13] (by decide +kernel) (by decide +kernel)) (goodIn_sub (fun _ h => (List.mem_append_right _ h)) gwX12))
set_option maxRecDepth 20000 in
theorem gL_law_X12_today_C_40 : GoodIn wsC_40 (wsV RL 197 RX12 yX12_today wsX12_today) := goodIn_app (goodIn_of _ (by decide +kernel)) ggL_law_X12_today_C_40
set_option maxRecDepth 20000 in
theorem ggL_law_X11_seed_C_41 : GoodIn wsC_41 wsX11_seed := (goodIn_ca (goodIn_ca (goodIn_r _ [4, 5, 6] (by decide +kernel) (by decide +kernel)) (goodIn_sub (fun _ h => (List.mem_append_left _ (List.mem_append_left _ (List.mem_append_right _ h)))) gwX11)) (goodIn_sub (fun _ h => (List.mem_append_left _ (List.mem_append_right _ h))) gwX2))
set_option maxRecDepth 20000 in
theorem gL_law_X11_seed_C_41 : GoodIn wsC_41 (wsV RL 198 RX11 yX11_seed wsX11_seed) := goodIn_app (goodIn_of _ (by decide +kernel)) ggL_law_X11_seed_C_41
set_option maxRecDepth 20000 in
theorem ggL_law_X12_seed_C_41 : GoodIn wsC_41 wsX12_seed := (goodIn_ca (goodIn_r _ [11, 12, 13] (by decide +kernel) (by decide +kernel)) (goodIn_sub (fun _ h => (List.mem_append_right _ h)) gwX12))
set_option maxRecDepth 20000 in
theorem gL_law_X12_seed_C_41 : GoodIn wsC_41 (wsV RL 201 RX12 yX12_seed wsX12_seed) := goodIn_app (goodIn_of _ (by decide +kernel)) ggL_law_X12_seed_C_41
set_option maxRecDepth 20000 in
theorem ggL_law_X11_keep_C_42 : GoodIn wsC_42 wsX11_keep := (goodIn_ca (goodIn_ca (goodIn_r _ [4, 5, 6, 7, 8, 9, 10, 11, 12, 13, 14, 15, 16, 17, 18, 19, 20, 21, 22] (by decide +kernel) (by decide +kernel)) (goodIn_sub (fun _ h => (List.mem_append_left _ (List.mem_append_left _ (List.mem_append_right _ h)))) gwX11)) (goodIn_sub (fun _ h => (List.mem_append_left _ (List.mem_append_right _ h))) gwX2))
set_option maxRecDepth 20000 in
theorem gL_law_X11_keep_C_42 : GoodIn wsC_42 (wsV RL 202 RX11 yX11_keep wsX11_keep) := goodIn_app (goodIn_of _ (by decide +kernel)) ggL_law_X11_keep_C_42
set_option maxRecDepth 20000 in
theorem ggL_law_X12_keep_C_42 : GoodIn wsC_42 wsX12_keep := (goodIn_ca (goodIn_r _ [27, 28, 29, 30, 31, 32, 33, 34, 35, 36, 37, 38, 26, 39, 40, 41, 42, 43, 44, 45] (by decide +kernel) (by decide +kernel)) (goodIn_sub (fun _ h => (List.mem_append_right _ h)) gwX12))
set_option maxRecDepth 20000 in
theorem gL_law_X12_keep_C_42 : GoodIn wsC_42 (wsV RL 205 RX12 yX12_keep wsX12_keep) := goodIn_app (goodIn_of _ (by decide +kernel)) ggL_law_X12_keep_C_42
set_option maxRecDepth 20000 in
theorem ggL_law_X11_again_C_43 : GoodIn wsC_43 wsX11_again := (goodIn_ca (goodIn_r _ [4, 5, 6] (by decide +kernel) (by decide +kernel)) (goodIn_sub (fun _ h => (List.mem_append_left _ (List.mem_append_right _ h))) gwX11))
set_option maxRecDepth 20000 in
theorem gL_law_X11_again_C_43 : GoodIn wsC_43 (wsV RL 206 RX11 yX11_again wsX11_again) := goodIn_app (goodIn_of _ (by decide +kernel)) ggL_law_X11_again_C_43
set_option maxRecDepth 20000 in
theorem ggL_law_X12_again_C_43 : GoodIn wsC_43 wsX12_again := (goodIn_ca (goodIn_r _ [11, 12, 13, 14, 15, 10, 16] (by decide +kernel) (by decide +kernel)) (goodIn_sub (fun _ h => (List.mem_append_right _ h)) gwX12))
set_option maxRecDepth 20000 in
theorem gL_law_X12_again_C_43 : GoodIn wsC_43 (wsV RL 209 RX12 yX12_again wsX12_again) := goodIn_app (goodIn_of _ (by decide +kernel)) ggL_law_X12_again_C_43
set_option maxRecDepth 20000 in
theorem ggL_law_X11_count_C_44 : GoodIn wsC_44 wsX11_count := (goodIn_ca (goodIn_ca (goodIn_ca (goodIn_ca (goodIn_ca (goodIn_r _ [4, 5, 6, 7, 8, 9, 10, 11, 12, 13, 14, 15, 16, 17, 18, 19, 20, 21, 22, 23, 24, 25, 26, 27, 28, 29, 30, 31, 32, 33, 34, 35, 36, 37, 38, 39, 40] (by decide +kernel) (by decide +kernel)) (goodIn_sub (fun _ h => (List.mem_append_left _ (List.mem_append_left _ (List.mem_append_left _ (List.mem_append_left _ (List.mem_append_left _ (List.mem_append_right _ h))))))) gwX11)) (goodIn_sub (fun _ h => (List.mem_append_left _ (List.mem_append_left _ (List.mem_append_left _ (List.mem_append_left _ (List.mem_append_right _ h)))))) gwX2)) (goodIn_sub (fun _ h => (List.mem_append_left _ (List.mem_append_left _ (List.mem_append_left _ (List.mem_append_right _ h))))) gwX4)) (goodIn_sub (fun _ h => (List.mem_append_left _ (List.mem_append_left _ (List.mem_append_right _ h)))) gwX0)) (goodIn_sub (fun _ h => (List.mem_append_left _ (List.mem_append_right _ h))) gwX9))
set_option maxRecDepth 20000 in
theorem gL_law_X11_count_C_44 : GoodIn wsC_44 (wsV RL 210 RX11 yX11_count wsX11_count) := goodIn_app (goodIn_of _ (by decide +kernel)) ggL_law_X11_count_C_44
set_option maxRecDepth 20000 in
theorem ggL_law_X12_count_C_44 : GoodIn wsC_44 wsX12_count := (goodIn_ca (goodIn_r _ [45, 46, 47, 48, 49, 50, 51, 52, 53, 54, 55, 44, 56] (by decide +kernel) (by decide +kernel)) (goodIn_sub (fun _ h => (List.mem_append_right _ h)) gwX12))
set_option maxRecDepth 20000 in
theorem gL_law_X12_count_C_44 : GoodIn wsC_44 (wsV RL 213 RX12 yX12_count wsX12_count) := goodIn_app (goodIn_of _ (by decide +kernel)) ggL_law_X12_count_C_44
set_option maxRecDepth 20000 in
theorem ggL_law_L_row_C_45 : GoodIn wsC_45 wsL_row := (goodIn_ca (goodIn_ca (goodIn_r _ [3, 4, 5, 6, 7, 8, 9, 10, 11, 12] (by decide +kernel) (by decide +kernel)) (goodIn_sub (fun _ h => (List.mem_append_left _ (List.mem_append_left _ (List.mem_append_right _ h)))) gwX11)) (goodIn_sub (fun _ h => (List.mem_append_right _ h)) gwx))
set_option maxRecDepth 20000 in
theorem gL_law_L_row_C_45 : GoodIn wsC_45 (va_wsS RL 214 yL_row wsL_row) := goodIn_app (goodIn_of _ (by decide +kernel)) ggL_law_L_row_C_45
set_option maxRecDepth 20000 in
theorem ggL_law_X12_row_C_45 : GoodIn wsC_45 wsX12_row := (goodIn_ca (goodIn_r _ [17, 18, 19, 20, 21, 16, 22, 23, 24, 25, 26] (by decide +kernel) (by decide +kernel)) (goodIn_sub (fun _ h => (List.mem_append_left _ (List.mem_append_right _ h))) gwX12))
set_option maxRecDepth 20000 in
theorem gL_law_X12_row_C_45 : GoodIn wsC_45 (wsV RL 217 RX12 yX12_row wsX12_row) := goodIn_app (goodIn_of _ (by decide +kernel)) ggL_law_X12_row_C_45
set_option maxRecDepth 20000 in
theorem ggL_law_X12_thrown_C_45 : GoodIn wsC_45 wsX12_thrown := (goodIn_ca (goodIn_r _ [30, 18] (by decide +kernel) (by decide +kernel)) (goodIn_sub (fun _ h => (List.mem_append_left _ (List.mem_append_right _ h))) gwX12))
set_option maxRecDepth 20000 in
theorem gL_law_X12_thrown_C_45 : GoodIn wsC_45 (wsV RL 50 RX12 yX12_thrown wsX12_thrown) := goodIn_app (goodIn_of _ (by decide +kernel)) ggL_law_X12_thrown_C_45
set_option maxRecDepth 20000 in
theorem ggL_law_X11_init_C_s : GoodIn wsC_s wsX11_init := (goodIn_ca (goodIn_ca (goodIn_ca (goodIn_ca (goodIn_ca (goodIn_ca (goodIn_ca (goodIn_ca (goodIn_ca (goodIn_ca (goodIn_r _ [11, 12, 13, 14, 15, 16, 17, 18, 19, 20, 21, 22, 23, 24, 25, 26, 27, 28, 29, 30, 31, 32, 33, 34, 35, 36, 37, 38, 39, 40, 41, 42, 43, 44, 45, 46, 47, 48, 49, 50, 51, 52, 53, 54, 55, 56, 57, 58, 59, 60, 61, 62, 63, 64, 65, 66, 67, 68, 69, 70, 71, 72, 73, 74, 75, 76, 77, 78, 79, 80, 81, 82, 83, 84, 85, 86, 87, 88, 89, 10, 90, 91, 92, 93, 94, 95, 96, 97, 98] (by decide +kernel) (by decide +kernel)) (goodIn_sub (fun _ h => (List.mem_append_left _ (List.mem_append_left _ (List.mem_append_left _ (List.mem_append_left _ (List.mem_append_left _ (List.mem_append_left _ (List.mem_append_left _ (List.mem_append_left _ (List.mem_append_right _ h)))))))))) gwX0)) (goodIn_sub (fun _ h => (List.mem_append_left _ (List.mem_append_left _ (List.mem_append_left _ (List.mem_append_left _ (List.mem_append_left _ (List.mem_append_left _ (List.mem_append_left _ (List.mem_append_right _ h))))))))) gwX1)) (goodIn_sub (fun _ h => (List.mem_append_left _ (List.mem_append_left _ (List.mem_append_left _ (List.mem_append_left _ (List.mem_append_left _ (List.mem_append_left _ (List.mem_append_right _ h)))))))) gwX10)) (goodIn_sub (fun _ h => (List.mem_append_left _ (List.mem_append_left _ (List.mem_append_left _ (List.mem_append_left _ (List.mem_append_left _ (List.mem_append_left _ (List.mem_append_left _ (List.mem_append_left _ (List.mem_append_left _ (List.mem_append_left _ (List.mem_append_right _ h)))))))))))) gwX11)) (goodIn_sub (fun _ h => (List.mem_append_left _ (List.mem_append_left _ (List.mem_append_left _ (List.mem_append_left _ (List.mem_append_left _ (List.mem_append_right _ h))))))) gwX2)) (goodIn_sub (fun _ h => (List.mem_append_left _ (List.mem_append_left _ (List.mem_append_left _ (List.mem_append_left _ (List.mem_append_right _ h)))))) gwX3)) (goodIn_sub (fun _ h => (List.mem_append_left _ (List.mem_append_left _ (List.mem_append_left _ (List.mem_append_right _ h))))) gwX4)) (goodIn_sub (fun _ h => (List.mem_append_left _ (List.mem_append_left _ (List.mem_append_right _ h)))) gwX5)) (goodIn_sub (fun _ h => (List.mem_append_left _ (List.mem_append_right _ h))) gwX6)) (goodIn_sub (fun _ h => (List.mem_append_right _ h)) gwX9))
set_option maxRecDepth 20000 in
theorem gL_law_X11_init_C_s : GoodIn wsC_s wsX11_init := ggL_law_X11_init_C_s
set_option maxRecDepth 20000 in
theorem ggL_law_X12_init_C_s : GoodIn wsC_s wsX12_init := (goodIn_ca (goodIn_r _ [99, 100, 13, 14, 15, 101, 102, 29, 103, 104, 105, 106, 107, 108, 109, 110, 111, 112, 113, 114, 115, 116, 117, 118, 119, 120, 121, 122, 123, 124, 125, 126, 127, 128, 129, 130, 131] (by decide +kernel) (by decide +kernel)) (goodIn_sub (fun _ h => (List.mem_append_left _ (List.mem_append_left _ (List.mem_append_left _ (List.mem_append_left _ (List.mem_append_left _ (List.mem_append_left _ (List.mem_append_left _ (List.mem_append_left _ (List.mem_append_left _ (List.mem_append_right _ h))))))))))) gwX12))
set_option maxRecDepth 20000 in
theorem gL_law_X12_init_C_s : GoodIn wsC_s wsX12_init := ggL_law_X12_init_C_s
