set_option maxRecDepth 20000 in
theorem ggL_tells_X5_tell : GoodIn wsL_tells wsX5_tell := goodIn_ca (goodIn_ca (goodIn_r _ [6, 7, 8, 9, 10, 11, 12, 13, 14, 5, 15, 16, 17, 18, 19, 20, 21, 22, 23, 24, 25, 26, 27, 28, 29, 30, 31, 32, 33, 34, 35, 36, 37, 38, 39, 40, 41, 42, 43, 44, 45, 46, 47, 48, 49, 50] (by decide +kernel) (by decide +kernel)) (goodIn_sub (fun _ h => List.mem_cons_of_mem _ (List.mem_append_left _ (List.mem_append_right _ h))) (by decide +kernel))) (goodIn_sub (fun _ h => List.mem_cons_of_mem _ (List.mem_append_right _ h)) (by decide +kernel))
set_option maxRecDepth 20000 in
theorem gL_tells_X5_tell : GoodIn wsL_tells (wsV RL 10 RX5 yX5_tell wsX5_tell) := goodIn_app (goodIn_of _ (by decide +kernel)) ggL_tells_X5_tell
set_option maxRecDepth 20000 in
theorem ggL_moves_X5_move : GoodIn wsL_moves wsX5_move := goodIn_ca (goodIn_ca (goodIn_r _ [6, 7, 8, 9, 10, 11, 12, 13, 14, 15, 5, 16, 17, 18, 19, 20, 21, 22, 23, 24, 25, 26, 27, 28, 29, 30, 31, 32, 33, 34, 35, 36, 37, 38, 39, 40, 41, 42, 43, 44, 45, 46, 47, 48, 49, 50, 51, 52, 53, 54, 55, 56, 57, 58, 59, 60, 61, 62, 63, 64, 65, 66] (by decide +kernel) (by decide +kernel)) (goodIn_sub (fun _ h => List.mem_cons_of_mem _ (List.mem_append_left _ (List.mem_append_right _ h))) (by decide +kernel))) (goodIn_sub (fun _ h => List.mem_cons_of_mem _ (List.mem_append_right _ h)) (by decide +kernel))
set_option maxRecDepth 20000 in
theorem gL_moves_X5_move : GoodIn wsL_moves (wsV RL 18 RX5 yX5_move wsX5_move) := goodIn_app (goodIn_of _ (by decide +kernel)) ggL_moves_X5_move
set_option maxRecDepth 20000 in
theorem ggL_shift_L_takes : GoodIn wsL_shift wsL_takes := goodIn_r _ [4] (by decide +kernel) (by decide +kernel)
set_option maxRecDepth 20000 in
theorem gL_shift_L_takes : GoodIn wsL_shift (va_wsS RL 21 yL_takes wsL_takes) := goodIn_app (goodIn_of _ (by decide +kernel)) ggL_shift_L_takes
set_option maxRecDepth 20000 in
theorem ggL_plain_X5_ending : GoodIn wsL_plain wsX5_ending := goodIn_ca (goodIn_r _ [7, 8, 9, 10, 6, 11, 12, 13, 14, 15, 16, 17, 18, 19, 20, 21, 22, 23, 24, 25, 26, 27, 28, 29, 30, 31, 32, 33, 34, 35, 36, 37, 38, 39, 40, 41, 42, 43, 44, 45, 46, 47, 48, 49, 50, 51, 52, 53, 54, 55, 56, 57, 58, 59, 60, 61, 62, 63, 68, 69, 70, 71, 72, 73, 74, 75, 76, 77, 78] (by decide +kernel) (by decide +kernel)) (goodIn_sub (fun _ h => List.mem_cons_of_mem _ (List.mem_append_right _ h)) (by decide +kernel))
set_option maxRecDepth 20000 in
theorem gL_plain_X5_ending : GoodIn wsL_plain (wsV RL 27 RX5 yX5_ending wsX5_ending) := goodIn_app (goodIn_of _ (by decide +kernel)) ggL_plain_X5_ending
set_option maxRecDepth 20000 in
theorem ggL_plain_L_progress : GoodIn wsL_plain wsL_progress := goodIn_r _ [67] (by decide +kernel) (by decide +kernel)
set_option maxRecDepth 20000 in
theorem gL_plain_L_progress : GoodIn wsL_plain (va_wsS RL 33 yL_progress wsL_progress) := goodIn_app (goodIn_of _ (by decide +kernel)) ggL_plain_L_progress
set_option maxRecDepth 20000 in
theorem ggL_ahead_L_can : GoodIn wsL_ahead wsL_can := goodIn_r _ [6] (by decide +kernel) (by decide +kernel)
set_option maxRecDepth 20000 in
theorem gL_ahead_L_can : GoodIn wsL_ahead (va_wsS RL 37 yL_can wsL_can) := goodIn_app (goodIn_of _ (by decide +kernel)) ggL_ahead_L_can
set_option maxRecDepth 20000 in
theorem ggL_ahead_L_copy : GoodIn wsL_ahead wsL_copy := goodIn_r _ [9] (by decide +kernel) (by decide +kernel)
set_option maxRecDepth 20000 in
theorem gL_ahead_L_copy : GoodIn wsL_ahead (va_wsS RL 41 yL_copy wsL_copy) := goodIn_app (goodIn_of _ (by decide +kernel)) ggL_ahead_L_copy
set_option maxRecDepth 20000 in
theorem ggL_ahead_L_shift : GoodIn wsL_ahead wsL_shift := goodIn_r _ [12, 13, 14, 5, 15] (by decide +kernel) (by decide +kernel)
set_option maxRecDepth 20000 in
theorem gL_ahead_L_shift : GoodIn wsL_ahead (va_wsS RL 45 yL_shift wsL_shift) := goodIn_app (goodIn_of _ (by decide +kernel)) ggL_ahead_L_shift
set_option maxRecDepth 20000 in
theorem ggL_ahead_L_after : GoodIn wsL_ahead wsL_after := goodIn_r _ [18] (by decide +kernel) (by decide +kernel)
set_option maxRecDepth 20000 in
theorem gL_ahead_L_after : GoodIn wsL_ahead (va_wsS RL 49 yL_after wsL_after) := goodIn_app (goodIn_of _ (by decide +kernel)) ggL_ahead_L_after
set_option maxRecDepth 20000 in
theorem ggL_ahead_L_plain : GoodIn wsL_ahead wsL_plain := goodIn_ca (goodIn_r _ [21, 22, 23, 24, 25, 26, 27, 28, 29, 30, 31, 32, 33, 34, 35, 36, 37, 38, 39, 40, 41, 42, 43, 44, 45, 46, 47, 48, 49, 50, 51, 52, 53, 54, 55, 56, 57, 58, 59, 60, 61, 62, 63, 64, 65, 66, 67, 68, 69, 70, 71, 72, 73, 74, 75, 76, 77, 78, 79, 80, 81, 82, 83, 84, 85, 86, 5, 87, 88, 89, 90, 91, 92, 93, 94, 95, 96, 97, 98] (by decide +kernel) (by decide +kernel)) (goodIn_sub (fun _ h => List.mem_cons_of_mem _ (List.mem_append_right _ h)) (by decide +kernel))
set_option maxRecDepth 20000 in
theorem gL_ahead_L_plain : GoodIn wsL_ahead (va_wsS RL 54 yL_plain wsL_plain) := goodIn_app (goodIn_of _ (by decide +kernel)) ggL_ahead_L_plain
set_option maxRecDepth 20000 in
theorem ggL_behind_L_copy : GoodIn wsL_behind wsL_copy := goodIn_r _ [5] (by decide +kernel) (by decide +kernel)
set_option maxRecDepth 20000 in
theorem gL_behind_L_copy : GoodIn wsL_behind (va_wsS RL 41 yL_copy wsL_copy) := goodIn_app (goodIn_of _ (by decide +kernel)) ggL_behind_L_copy
set_option maxRecDepth 20000 in
theorem ggL_behind_L_shift : GoodIn wsL_behind wsL_shift := goodIn_r _ [8, 9, 10, 4, 11] (by decide +kernel) (by decide +kernel)
set_option maxRecDepth 20000 in
theorem gL_behind_L_shift : GoodIn wsL_behind (va_wsS RL 45 yL_shift wsL_shift) := goodIn_app (goodIn_of _ (by decide +kernel)) ggL_behind_L_shift
set_option maxRecDepth 20000 in
theorem ggL_behind_L_after : GoodIn wsL_behind wsL_after := goodIn_r _ [14] (by decide +kernel) (by decide +kernel)
set_option maxRecDepth 20000 in
theorem gL_behind_L_after : GoodIn wsL_behind (va_wsS RL 49 yL_after wsL_after) := goodIn_app (goodIn_of _ (by decide +kernel)) ggL_behind_L_after
set_option maxRecDepth 20000 in
theorem ggL_behind_L_plain : GoodIn wsL_behind wsL_plain := goodIn_ca (goodIn_r _ [17, 18, 19, 20, 21, 22, 23, 24, 25, 26, 27, 28, 29, 30, 31, 32, 33, 34, 35, 36, 37, 38, 39, 40, 41, 42, 43, 44, 45, 46, 47, 48, 49, 50, 51, 52, 53, 54, 55, 56, 57, 58, 59, 60, 61, 62, 63, 64, 65, 66, 67, 68, 69, 70, 71, 72, 73, 74, 75, 76, 77, 78, 79, 80, 81, 82, 4, 83, 91, 92, 93, 94, 95, 96, 97, 98, 99, 100, 101] (by decide +kernel) (by decide +kernel)) (goodIn_sub (fun _ h => List.mem_cons_of_mem _ (List.mem_append_right _ h)) (by decide +kernel))
set_option maxRecDepth 20000 in
theorem gL_behind_L_plain : GoodIn wsL_behind (va_wsS RL 54 yL_plain wsL_plain) := goodIn_app (goodIn_of _ (by decide +kernel)) ggL_behind_L_plain
set_option maxRecDepth 20000 in
theorem ggL_behind_L_ahead : GoodIn wsL_behind wsL_ahead := goodIn_ca (goodIn_r _ [86, 1, 87, 88, 89, 4, 90, 2, 3, 5, 6, 7, 8, 9, 10, 11, 12, 13, 14, 15, 16, 17, 18, 19, 20, 21, 22, 23, 24, 25, 26, 27, 28, 29, 30, 31, 32, 33, 34, 35, 36, 37, 38, 39, 40, 41, 42, 43, 44, 45, 46, 47, 48, 49, 50, 51, 52, 53, 54, 55, 56, 57, 58, 59, 60, 61, 62, 63, 64, 65, 66, 67, 68, 69, 70, 71, 72, 73, 74, 75, 76, 77, 78, 79, 80, 81, 82, 83, 91, 92, 93, 94, 95, 96, 97, 98, 99, 100, 101] (by decide +kernel) (by decide +kernel)) (goodIn_sub (fun _ h => List.mem_cons_of_mem _ (List.mem_append_right _ h)) (by decide +kernel))
set_option maxRecDepth 20000 in
theorem gL_behind_L_ahead : GoodIn wsL_behind (va_wsS RL 60 yL_ahead wsL_ahead) := goodIn_app (goodIn_of _ (by decide +kernel)) ggL_behind_L_ahead
set_option maxRecDepth 20000 in
theorem ggL_worths_L_plain : GoodIn wsL_worths wsL_plain := goodIn_ca (goodIn_r _ [6, 7, 8, 9, 10, 11, 12, 13, 14, 15, 16, 17, 18, 19, 20, 21, 22, 23, 24, 25, 26, 27, 28, 29, 30, 31, 32, 33, 34, 35, 36, 37, 38, 39, 40, 41, 42, 43, 44, 45, 46, 47, 48, 49, 50, 51, 52, 53, 54, 55, 56, 57, 58, 59, 60, 61, 62, 63, 64, 65, 66, 67, 68, 69, 70, 71, 5, 72, 193, 194, 195, 196, 197, 198, 199, 200, 201, 202, 203] (by decide +kernel) (by decide +kernel)) (goodIn_sub (fun _ h => List.mem_cons_of_mem _ (List.mem_append_right _ h)) (by decide +kernel))
set_option maxRecDepth 20000 in
theorem gL_worths_L_plain : GoodIn wsL_worths (va_wsS RL 54 yL_plain wsL_plain) := goodIn_app (goodIn_of _ (by decide +kernel)) ggL_worths_L_plain
set_option maxRecDepth 20000 in
theorem ggL_worths_L_ahead : GoodIn wsL_worths wsL_ahead := goodIn_ca (goodIn_r _ [75, 1, 76, 77, 78, 5, 79, 80, 81, 82, 83, 84, 85, 86, 87, 88, 89, 90, 91, 3, 4, 6, 7, 8, 9, 10, 11, 12, 13, 14, 15, 16, 17, 18, 19, 20, 21, 22, 23, 24, 25, 26, 27, 28, 29, 30, 31, 32, 33, 34, 35, 36, 37, 38, 39, 40, 41, 42, 43, 44, 45, 46, 47, 48, 49, 50, 51, 52, 53, 54, 55, 56, 57, 58, 59, 60, 61, 62, 63, 64, 65, 66, 67, 68, 69, 70, 71, 72, 193, 194, 195, 196, 197, 198, 199, 200, 201, 202, 203] (by decide +kernel) (by decide +kernel)) (goodIn_sub (fun _ h => List.mem_cons_of_mem _ (List.mem_append_right _ h)) (by decide +kernel))
set_option maxRecDepth 20000 in
theorem gL_worths_L_ahead : GoodIn wsL_worths (va_wsS RL 60 yL_ahead wsL_ahead) := goodIn_app (goodIn_of _ (by decide +kernel)) ggL_worths_L_ahead
set_option maxRecDepth 20000 in
theorem ggL_worths_L_can : GoodIn wsL_worths wsL_can := goodIn_r _ [79] (by decide +kernel) (by decide +kernel)
set_option maxRecDepth 20000 in
theorem gL_worths_L_can : GoodIn wsL_worths (va_wsS RL 37 yL_can wsL_can) := goodIn_app (goodIn_of _ (by decide +kernel)) ggL_worths_L_can
set_option maxRecDepth 20000 in
theorem ggL_worths_L_behind : GoodIn wsL_worths wsL_behind := goodIn_ca (goodIn_r _ [94, 1, 80, 81, 5, 82, 83, 84, 85, 86, 87, 88, 89, 90, 91, 3, 4, 6, 7, 8, 9, 10, 11, 12, 13, 14, 15, 16, 17, 18, 19, 20, 21, 22, 23, 24, 25, 26, 27, 28, 29, 30, 31, 32, 33, 34, 35, 36, 37, 38, 39, 40, 41, 42, 43, 44, 45, 46, 47, 48, 49, 50, 51, 52, 53, 54, 55, 56, 57, 58, 59, 60, 61, 62, 63, 64, 65, 66, 67, 68, 69, 70, 71, 72, 73, 74, 75, 76, 77, 78, 79, 193, 194, 195, 196, 197, 198, 199, 200, 201, 202, 203] (by decide +kernel) (by decide +kernel)) (goodIn_sub (fun _ h => List.mem_cons_of_mem _ (List.mem_append_right _ h)) (by decide +kernel))
set_option maxRecDepth 20000 in
theorem gL_worths_L_behind : GoodIn wsL_worths (va_wsS RL 64 yL_behind wsL_behind) := goodIn_app (goodIn_of _ (by decide +kernel)) ggL_worths_L_behind
set_option maxRecDepth 20000 in
theorem ggL_worths_X5_worth : GoodIn wsL_worths wsX5_worth := goodIn_ca (goodIn_r _ [98, 99, 100, 20, 21, 12, 22, 18, 19, 101, 102, 103, 104, 105, 14, 106, 107, 27, 28, 29, 30, 31, 32, 33, 34, 35, 36, 37, 38, 39, 40, 41, 42, 43, 44, 45, 46, 47, 48, 49, 50, 51, 52, 53, 54, 55, 56, 57, 58, 59, 60, 61, 62, 63, 25, 64, 65, 24, 26, 66, 67, 68, 108, 109, 110, 111, 112, 113, 114, 115, 116, 117, 118, 119, 120, 121, 122, 123, 124, 125, 126, 127, 128, 129, 130, 131, 132, 133, 134, 135, 136, 137, 138, 139, 140, 141, 142, 143, 144, 145, 69, 146, 147, 148, 149, 150, 151, 152, 153, 154, 155, 156, 157, 158, 159, 160, 161, 162, 163, 164, 165, 166, 167, 168, 169, 170, 193, 194, 195, 196, 197, 198, 199, 200, 201, 204, 205, 202, 203] (by decide +kernel) (by decide +kernel)) (goodIn_sub (fun _ h => List.mem_cons_of_mem _ (List.mem_append_right _ h)) (by decide +kernel))
set_option maxRecDepth 20000 in
theorem gL_worths_X5_worth : GoodIn wsL_worths (wsV RL 68 RX5 yX5_worth wsX5_worth) := goodIn_app (goodIn_of _ (by decide +kernel)) ggL_worths_X5_worth
set_option maxRecDepth 20000 in
theorem ggL_worths_X5_chance : GoodIn wsL_worths wsX5_chance := goodIn_ca (goodIn_r _ [174, 175, 20, 21, 12, 22, 18, 19, 101, 102, 103, 104, 105, 99, 100, 14, 106, 107, 27, 28, 29, 30, 31, 32, 33, 34, 35, 36, 37, 38, 39, 40, 41, 42, 43, 44, 45, 46, 47, 48, 49, 50, 51, 52, 53, 54, 55, 56, 57, 58, 59, 60, 61, 62, 63, 25, 64, 65, 24, 26, 66, 67, 68, 108, 109, 110, 111, 112, 113, 114, 115, 116, 117, 118, 119, 120, 121, 122, 123, 124, 125, 126, 127, 128, 129, 130, 131, 132, 133, 134, 135, 136, 137, 138, 139, 140, 141, 142, 143, 144, 145, 69, 146, 147, 148, 149, 150, 151, 152, 153, 154, 155, 156, 157, 158, 159, 160, 161, 162, 163, 164, 165, 166, 167, 168, 169, 170, 193, 194, 195, 196, 197, 198, 199, 200, 201, 204, 205, 202, 203] (by decide +kernel) (by decide +kernel)) (goodIn_sub (fun _ h => List.mem_cons_of_mem _ (List.mem_append_right _ h)) (by decide +kernel))
set_option maxRecDepth 20000 in
theorem gL_worths_X5_chance : GoodIn wsL_worths (wsV RL 71 RX5 yX5_chance wsX5_chance) := goodIn_app (goodIn_of _ (by decide +kernel)) ggL_worths_X5_chance
set_option maxRecDepth 20000 in
theorem ggL_worths_X5_ranked : GoodIn wsL_worths wsX5_ranked := goodIn_ca (goodIn_r _ [179, 18, 19, 107, 180, 20, 21, 12, 22, 181, 182, 183, 184, 99, 106, 108, 109, 110, 111, 112, 113, 164, 165, 120, 166, 122, 123, 124, 167, 63, 25, 64, 185, 186, 187, 188, 14, 27, 28, 29, 30, 31, 32, 33, 34, 35, 36, 37, 38, 39, 40, 41, 42, 43, 44, 45, 46, 47, 48, 49, 50, 51, 52, 53, 54, 55, 56, 57, 58, 59, 60, 61, 62, 65, 24, 26, 66, 67, 68, 114, 115, 116, 117, 118, 119, 121, 168, 169, 170, 150, 100, 151, 152, 153, 154, 155, 156, 157, 158, 159, 160, 161, 162, 125, 126, 127, 163, 137, 138, 139, 128, 129, 130, 131, 132, 133, 134, 135, 136, 140, 141, 142, 143, 144, 145, 69, 146, 147, 148, 149, 189, 190, 191, 192, 193, 194, 195, 196, 197, 198, 199, 200, 201, 204, 205, 202, 203] (by decide +kernel) (by decide +kernel)) (goodIn_sub (fun _ h => List.mem_cons_of_mem _ (List.mem_append_right _ h)) (by decide +kernel))
set_option maxRecDepth 20000 in
theorem gL_worths_X5_ranked : GoodIn wsL_worths (wsV RL 77 RX5 yX5_ranked wsX5_ranked) := goodIn_app (goodIn_of _ (by decide +kernel)) ggL_worths_X5_ranked
set_option maxRecDepth 20000 in
theorem ggL_isSo_X5_turn : GoodIn wsL_isSo wsX5_turn := goodIn_r _ [5, 6, 98, 99, 100, 101, 102, 103, 104, 105, 106] (by decide +kernel) (by decide +kernel)
set_option maxRecDepth 20000 in
theorem gL_isSo_X5_turn : GoodIn wsL_isSo (wsV RL 80 RX5 yX5_turn wsX5_turn) := goodIn_app (goodIn_of _ (by decide +kernel)) ggL_isSo_X5_turn
set_option maxRecDepth 20000 in
theorem ggL_isSo_X5_marks : GoodIn wsL_isSo wsX5_marks := goodIn_r _ [10, 11, 98, 99, 100, 101, 102, 103, 104, 105, 106] (by decide +kernel) (by decide +kernel)
set_option maxRecDepth 20000 in
theorem gL_isSo_X5_marks : GoodIn wsL_isSo (wsV RL 84 RX5 yX5_marks wsX5_marks) := goodIn_app (goodIn_of _ (by decide +kernel)) ggL_isSo_X5_marks
set_option maxRecDepth 20000 in
theorem ggL_isSo_X5_winner : GoodIn wsL_isSo wsX5_winner := goodIn_r _ [15, 16, 98, 99, 100, 101, 102, 103, 104, 105, 106] (by decide +kernel) (by decide +kernel)
set_option maxRecDepth 20000 in
theorem gL_isSo_X5_winner : GoodIn wsL_isSo (wsV RL 87 RX5 yX5_winner wsX5_winner) := goodIn_app (goodIn_of _ (by decide +kernel)) ggL_isSo_X5_winner
set_option maxRecDepth 20000 in
theorem ggL_isSo_X5_throwsTold : GoodIn wsL_isSo wsX5_throwsTold := goodIn_r _ [20, 21, 98, 99, 100, 101, 102, 103, 104, 105, 106] (by decide +kernel) (by decide +kernel)
set_option maxRecDepth 20000 in
theorem gL_isSo_X5_throwsTold : GoodIn wsL_isSo (wsV RL 90 RX5 yX5_throwsTold wsX5_throwsTold) := goodIn_app (goodIn_of _ (by decide +kernel)) ggL_isSo_X5_throwsTold
set_option maxRecDepth 20000 in
theorem ggL_isSo_L_can : GoodIn wsL_isSo wsL_can := goodIn_r _ [25] (by decide +kernel) (by decide +kernel)
set_option maxRecDepth 20000 in
theorem gL_isSo_L_can : GoodIn wsL_isSo (va_wsS RL 37 yL_can wsL_can) := goodIn_app (goodIn_of _ (by decide +kernel)) ggL_isSo_L_can
set_option maxRecDepth 20000 in
theorem ggL_isSo_X5_at : GoodIn wsL_isSo wsX5_at := goodIn_ca (goodIn_r _ [29, 30, 31, 32, 4, 33, 34, 35, 36, 37, 38, 39, 40, 41, 42, 43, 44, 45, 107, 108, 98, 99, 100, 101, 102, 103, 104, 105, 106] (by decide +kernel) (by decide +kernel)) (goodIn_sub (fun _ h => List.mem_cons_of_mem _ (List.mem_append_right _ h)) (by decide +kernel))
set_option maxRecDepth 20000 in
theorem gL_isSo_X5_at : GoodIn wsL_isSo (wsV RL 93 RX5 yX5_at wsX5_at) := goodIn_app (goodIn_of _ (by decide +kernel)) ggL_isSo_X5_at
set_option maxRecDepth 20000 in
theorem ggL_isSo_X5_captures : GoodIn wsL_isSo wsX5_captures := goodIn_ca (goodIn_r _ [49, 6, 30, 11, 31, 32, 4, 33, 34, 35, 50, 51, 52, 53, 36, 37, 38, 39, 40, 41, 54, 55, 44, 56, 57, 43, 45, 58, 59, 60, 61, 62, 63, 64, 65, 66, 67, 98, 99, 100, 101, 102, 103, 104, 105, 106, 107, 108] (by decide +kernel) (by decide +kernel)) (goodIn_sub (fun _ h => List.mem_cons_of_mem _ (List.mem_append_right _ h)) (by decide +kernel))
set_option maxRecDepth 20000 in
theorem gL_isSo_X5_captures : GoodIn wsL_isSo (wsV RL 96 RX5 yX5_captures wsX5_captures) := goodIn_app (goodIn_of _ (by decide +kernel)) ggL_isSo_X5_captures
set_option maxRecDepth 20000 in
theorem ggL_isSo_L_takes : GoodIn wsL_isSo wsL_takes := goodIn_r _ [70] (by decide +kernel) (by decide +kernel)
set_option maxRecDepth 20000 in
theorem gL_isSo_L_takes : GoodIn wsL_isSo (va_wsS RL 21 yL_takes wsL_takes) := goodIn_app (goodIn_of _ (by decide +kernel)) ggL_isSo_L_takes
set_option maxRecDepth 20000 in
theorem ggL_isSo_X5_moveAt : GoodIn wsL_isSo wsX5_moveAt := goodIn_r _ [74, 50, 51, 52, 4, 53, 6, 30, 11, 36, 37, 38, 39, 40, 41, 54, 55, 44, 56, 57, 43, 45, 58, 59, 60, 61, 98, 99, 100, 101, 102, 103, 104, 105, 106, 107, 108] (by decide +kernel) (by decide +kernel)
set_option maxRecDepth 20000 in
theorem gL_isSo_X5_moveAt : GoodIn wsL_isSo (wsV RL 100 RX5 yX5_moveAt wsX5_moveAt) := goodIn_app (goodIn_of _ (by decide +kernel)) ggL_isSo_X5_moveAt
set_option maxRecDepth 20000 in
theorem ggL_isSo_X5_moves : GoodIn wsL_isSo wsX5_moves := goodIn_r _ [78, 11, 79, 80, 81, 4, 82, 6, 30, 36, 37, 38, 39, 40, 41, 54, 55, 44, 56, 57, 43, 45, 58, 59, 60, 61, 98, 99, 100, 101, 102, 103, 104, 105, 106, 107, 108] (by decide +kernel) (by decide +kernel)
set_option maxRecDepth 20000 in
theorem gL_isSo_X5_moves : GoodIn wsL_isSo (wsV RL 103 RX5 yX5_moves wsX5_moves) := goodIn_app (goodIn_of _ (by decide +kernel)) ggL_isSo_X5_moves
set_option maxRecDepth 20000 in
theorem ggL_isSo_X5_progress : GoodIn wsL_isSo wsX5_progress := goodIn_ca (goodIn_r _ [86, 30, 31, 32, 4, 33, 34, 35, 36, 37, 38, 39, 40, 41, 87, 88, 44, 89, 57, 43, 45, 107, 108, 98, 99, 100, 101, 102, 103, 104, 105, 106] (by decide +kernel) (by decide +kernel)) (goodIn_sub (fun _ h => List.mem_cons_of_mem _ (List.mem_append_right _ h)) (by decide +kernel))
set_option maxRecDepth 20000 in
theorem gL_isSo_X5_progress : GoodIn wsL_isSo (wsV RL 106 RX5 yX5_progress wsX5_progress) := goodIn_app (goodIn_of _ (by decide +kernel)) ggL_isSo_X5_progress
set_option maxRecDepth 20000 in
theorem ggL_isSo_L_progress : GoodIn wsL_isSo wsL_progress := goodIn_r _ [92] (by decide +kernel) (by decide +kernel)
set_option maxRecDepth 20000 in
theorem gL_isSo_L_progress : GoodIn wsL_isSo (va_wsS RL 33 yL_progress wsL_progress) := goodIn_app (goodIn_of _ (by decide +kernel)) ggL_isSo_L_progress
set_option maxRecDepth 20000 in
theorem ggL_isSo_X5_captured : GoodIn wsL_isSo wsX5_captured := goodIn_ca (goodIn_r _ [96, 97, 31, 32, 4, 33, 34, 35, 36, 37, 38, 39, 40, 41, 107, 108, 98, 99, 100, 101, 102, 103, 104, 105, 106] (by decide +kernel) (by decide +kernel)) (goodIn_sub (fun _ h => List.mem_cons_of_mem _ (List.mem_append_right _ h)) (by decide +kernel))
set_option maxRecDepth 20000 in
theorem gL_isSo_X5_captured : GoodIn wsL_isSo (wsV RL 108 RX5 yX5_captured wsX5_captured) := goodIn_app (goodIn_of _ (by decide +kernel)) ggL_isSo_X5_captured
set_option maxRecDepth 20000 in
theorem ggL_turn_L_low : GoodIn wsL_turn wsL_low := goodIn_r _ [4, 5] (by decide +kernel) (by decide +kernel)
set_option maxRecDepth 20000 in
theorem gL_turn_L_low : GoodIn wsL_turn (va_wsS RL 111 yL_low wsL_low) := goodIn_app (goodIn_of _ (by decide +kernel)) ggL_turn_L_low
set_option maxRecDepth 20000 in
theorem ggL_turn_L_can : GoodIn wsL_turn wsL_can := goodIn_r _ [8] (by decide +kernel) (by decide +kernel)
set_option maxRecDepth 20000 in
theorem gL_turn_L_can : GoodIn wsL_turn (va_wsS RL 37 yL_can wsL_can) := goodIn_app (goodIn_of _ (by decide +kernel)) ggL_turn_L_can
set_option maxRecDepth 20000 in
theorem ggL_turn_L_tells : GoodIn wsL_turn wsL_tells := goodIn_ca (goodIn_ca (goodIn_r _ [11, 12, 13, 14, 15, 16, 17, 18, 19, 20, 21, 22, 23, 24, 25, 26, 27, 28, 29, 30, 31, 32, 33, 34, 35, 36, 37, 38, 39, 40, 41, 42, 43, 44, 45, 46, 47, 48, 49, 50, 88, 89, 90, 91, 92, 93, 94, 95, 96, 97, 98] (by decide +kernel) (by decide +kernel)) (goodIn_sub (fun _ h => List.mem_cons_of_mem _ (List.mem_append_left _ (List.mem_append_right _ h))) (by decide +kernel))) (goodIn_sub (fun _ h => List.mem_cons_of_mem _ (List.mem_append_right _ h)) (by decide +kernel))
set_option maxRecDepth 20000 in
theorem gL_turn_L_tells : GoodIn wsL_turn (va_wsS RL 114 yL_tells wsL_tells) := goodIn_app (goodIn_of _ (by decide +kernel)) ggL_turn_L_tells
set_option maxRecDepth 20000 in
theorem ggL_turn_L_moves : GoodIn wsL_turn wsL_moves := goodIn_ca (goodIn_ca (goodIn_r _ [53, 12, 54, 55, 56, 16, 57, 18, 19, 21, 23, 33, 58, 20, 24, 25, 26, 27, 28, 59, 60, 61, 62, 34, 35, 36, 37, 38, 39, 40, 41, 42, 43, 44, 45, 46, 47, 48, 49, 50, 63, 64, 65, 66, 67, 68, 69, 70, 71, 72, 73, 74, 75, 76, 77, 78, 88, 89, 90, 91, 92, 93, 94, 95, 96, 97, 98] (by decide +kernel) (by decide +kernel)) (goodIn_sub (fun _ h => List.mem_cons_of_mem _ (List.mem_append_left _ (List.mem_append_right _ h))) (by decide +kernel))) (goodIn_sub (fun _ h => List.mem_cons_of_mem _ (List.mem_append_right _ h)) (by decide +kernel))
set_option maxRecDepth 20000 in
theorem gL_turn_L_moves : GoodIn wsL_turn (va_wsS RL 118 yL_moves wsL_moves) := goodIn_app (goodIn_of _ (by decide +kernel)) ggL_turn_L_moves
set_option maxRecDepth 20000 in
theorem ggL_turn_L_takes : GoodIn wsL_turn wsL_takes := goodIn_r _ [81] (by decide +kernel) (by decide +kernel)
set_option maxRecDepth 20000 in
theorem gL_turn_L_takes : GoodIn wsL_turn (va_wsS RL 21 yL_takes wsL_takes) := goodIn_app (goodIn_of _ (by decide +kernel)) ggL_turn_L_takes
set_option maxRecDepth 20000 in
theorem ggL_turn_L_shift : GoodIn wsL_turn wsL_shift := goodIn_r _ [84, 79, 80, 3, 81] (by decide +kernel) (by decide +kernel)
set_option maxRecDepth 20000 in
theorem gL_turn_L_shift : GoodIn wsL_turn (va_wsS RL 45 yL_shift wsL_shift) := goodIn_app (goodIn_of _ (by decide +kernel)) ggL_turn_L_shift
set_option maxRecDepth 20000 in
theorem ggL_turn_L_after : GoodIn wsL_turn wsL_after := goodIn_r _ [87] (by decide +kernel) (by decide +kernel)
set_option maxRecDepth 20000 in
theorem gL_turn_L_after : GoodIn wsL_turn (va_wsS RL 49 yL_after wsL_after) := goodIn_app (goodIn_of _ (by decide +kernel)) ggL_turn_L_after
set_option maxRecDepth 20000 in
theorem ggL_law_X5_init : GoodIn wsL_law wsX5_init := goodIn_r _ [6, 7, 8, 9, 10, 11, 12, 13, 14, 15, 16, 17, 18, 3, 19, 20, 21, 22, 23, 24, 25, 26, 27, 28, 29, 30, 2, 31, 32, 33, 34, 35, 36, 37, 38, 39, 40, 41, 42, 317, 318, 308, 309, 310, 311, 312, 313, 314, 315, 316, 319, 320] (by decide +kernel) (by decide +kernel)
set_option maxRecDepth 20000 in
theorem gL_law_X5_init : GoodIn wsL_law (wsX5_init) := ggL_law_X5_init
set_option maxRecDepth 20000 in
theorem ggL_law_L_begin : GoodIn wsL_law wsL_begin := goodIn_r _ [46] (by decide +kernel) (by decide +kernel)
set_option maxRecDepth 20000 in
theorem gL_law_L_begin : GoodIn wsL_law (va_wsS RL 121 yL_begin wsL_begin) := goodIn_app (goodIn_of _ (by decide +kernel)) ggL_law_L_begin
set_option maxRecDepth 20000 in
theorem ggL_law_L_cell : GoodIn wsL_law wsL_cell := goodIn_r _ [49, 50, 51] (by decide +kernel) (by decide +kernel)
set_option maxRecDepth 20000 in
theorem gL_law_L_cell : GoodIn wsL_law (va_wsS RL 125 yL_cell wsL_cell) := goodIn_app (goodIn_of _ (by decide +kernel)) ggL_law_L_cell
set_option maxRecDepth 20000 in
theorem ggL_law_L_low : GoodIn wsL_law wsL_low := goodIn_r _ [54, 55] (by decide +kernel) (by decide +kernel)
set_option maxRecDepth 20000 in
theorem gL_law_L_low : GoodIn wsL_law (va_wsS RL 111 yL_low wsL_low) := goodIn_app (goodIn_of _ (by decide +kernel)) ggL_law_L_low
set_option maxRecDepth 20000 in
theorem ggL_law_X5_begin : GoodIn wsL_law wsX5_begin := goodIn_ca (goodIn_r _ [59, 60, 61, 2, 62, 63, 64, 28, 29, 30, 31, 32, 13, 33, 14, 34, 35, 36, 37, 38, 39, 40, 41, 42, 308, 309, 310, 311, 312, 313, 314, 315, 316, 317, 318] (by decide +kernel) (by decide +kernel)) (goodIn_sub (fun _ h => List.mem_append_left _ (List.mem_append_right _ h)) (by decide +kernel))
set_option maxRecDepth 20000 in
theorem gL_law_X5_begin : GoodIn wsL_law (wsV RL 128 RX5 yX5_begin wsX5_begin) := goodIn_app (goodIn_of _ (by decide +kernel)) ggL_law_X5_begin
set_option maxRecDepth 20000 in
theorem ggL_law_L_turn : GoodIn wsL_law wsL_turn := goodIn_ca (goodIn_ca (goodIn_r _ [67, 52, 53, 45, 54, 55, 68, 69, 70, 71, 72, 73, 74, 75, 76, 77, 2, 78, 79, 80, 37, 36, 38, 35, 60, 61, 62, 63, 64, 81, 82, 83, 84, 33, 85, 86, 87, 88, 13, 14, 89, 90, 41, 91, 92, 93, 94, 95, 96, 97, 98, 99, 100, 101, 102, 103, 104, 105, 34, 106, 107, 108, 109, 110, 111, 112, 113, 114, 115, 116, 117, 118, 119, 120, 121, 122, 123, 124, 125, 126, 127, 128, 129, 130, 131, 132, 133, 134, 308, 309, 310, 311, 312, 313, 314, 315, 316, 317, 318] (by decide +kernel) (by decide +kernel)) (goodIn_sub (fun _ h => List.mem_append_right _ h) (by decide +kernel))) (goodIn_sub (fun _ h => List.mem_append_left _ (List.mem_append_right _ h)) (by decide +kernel))
set_option maxRecDepth 20000 in
theorem gL_law_L_turn : GoodIn wsL_law (va_wsS RL 131 yL_turn wsL_turn) := goodIn_app (goodIn_of _ (by decide +kernel)) ggL_law_L_turn
set_option maxRecDepth 20000 in
theorem ggL_law_L_isSo : GoodIn wsL_law wsL_isSo := goodIn_ca (goodIn_r _ [137, 138, 139, 140, 2, 141, 35, 142, 143, 144, 145, 36, 146, 147, 148, 149, 37, 150, 151, 152, 153, 38, 68, 69, 45, 70, 154, 155, 156, 157, 33, 60, 61, 62, 63, 64, 85, 86, 87, 88, 13, 14, 158, 93, 41, 94, 159, 160, 161, 162, 106, 107, 108, 109, 89, 90, 91, 92, 95, 96, 97, 98, 113, 114, 115, 116, 117, 118, 126, 127, 128, 163, 164, 165, 166, 167, 168, 169, 170, 81, 82, 83, 84, 171, 172, 173, 174, 175, 176, 177, 178, 179, 180, 181, 182, 183, 184, 34, 308, 309, 310, 311, 312, 313, 314, 315, 316, 317, 318] (by decide +kernel) (by decide +kernel)) (goodIn_sub (fun _ h => List.mem_append_left _ (List.mem_append_right _ h)) (by decide +kernel))
set_option maxRecDepth 20000 in
theorem gL_law_L_isSo : GoodIn wsL_law (va_wsS RL 134 yL_isSo wsL_isSo) := goodIn_app (goodIn_of _ (by decide +kernel)) ggL_law_L_isSo
set_option maxRecDepth 20000 in
theorem ggL_law_L_worths : GoodIn wsL_law wsL_worths := goodIn_ca (goodIn_r _ [187, 188, 189, 190, 191, 45, 192, 193, 194, 195, 196, 197, 2, 198, 18, 199, 200, 201, 63, 64, 60, 61, 62, 202, 117, 97, 118, 203, 204, 205, 17, 206, 207, 208, 209, 210, 211, 212, 213, 214, 215, 27, 216, 217, 218, 219, 220, 221, 222, 223, 224, 225, 226, 227, 228, 229, 230, 231, 232, 233, 234, 235, 236, 96, 98, 237, 238, 124, 125, 239, 178, 179, 180, 240, 241, 242, 243, 68, 69, 70, 244, 245, 246, 129, 130, 131, 126, 127, 128, 132, 133, 134, 247, 248, 249, 250, 251, 252, 253, 35, 254, 255, 256, 257, 258, 37, 33, 36, 85, 86, 87, 88, 13, 14, 259, 260, 261, 262, 175, 176, 41, 177, 92, 93, 94, 263, 264, 265, 266, 267, 268, 269, 270, 271, 32, 272, 273, 274, 275, 276, 277, 278, 158, 279, 280, 281, 282, 283, 284, 285, 286, 110, 111, 112, 119, 120, 121, 122, 113, 114, 115, 116, 123, 287, 89, 90, 91, 95, 288, 289, 290, 291, 292, 293, 294, 295, 296, 297, 298, 299, 19, 81, 82, 83, 84, 300, 301, 302, 303, 304, 305, 306, 307, 308, 309, 310, 311, 312, 313, 314, 315, 316, 319, 320, 317, 318] (by decide +kernel) (by decide +kernel)) (goodIn_sub (fun _ h => List.mem_append_left _ (List.mem_append_right _ h)) (by decide +kernel))
set_option maxRecDepth 20000 in
theorem gL_law_L_worths : GoodIn wsL_law (va_wsS RL 138 yL_worths wsL_worths) := goodIn_app (goodIn_of _ (by decide +kernel)) ggL_law_L_worths
