set_option maxRecDepth 20000 in
theorem ggL_state_X7_state : GoodIn wsL_state wsX7_state := goodIn_ca (goodIn_ca (goodIn_r _ [7, 8, 9, 10, 11, 12, 13, 14, 15, 6, 16, 17, 18, 19, 20, 21, 22, 23, 24, 25, 26, 27, 28, 29, 30, 31, 32, 33, 34, 35, 36, 37, 38, 39, 40, 41, 42, 43, 44, 45, 46, 47, 48, 49, 50, 51, 52, 53, 54, 55, 56, 57, 58, 59, 60, 61, 62, 63, 64, 65, 66, 67, 68, 69, 70, 71, 72, 73, 74, 75, 76, 77, 78, 79, 80, 81, 82, 83, 84, 85, 86, 87, 88, 89, 90, 91, 92, 93, 94, 95, 96, 97, 98, 99, 100, 101, 102, 103] (by decide +kernel) (by decide +kernel)) (goodIn_sub (fun _ h => List.mem_cons_of_mem _ (List.mem_append_left _ (List.mem_append_right _ h))) (by decide +kernel))) (goodIn_sub (fun _ h => List.mem_cons_of_mem _ (List.mem_append_right _ h)) (by decide +kernel))
set_option maxRecDepth 20000 in
theorem gL_state_X7_state : GoodIn wsL_state (wsV RL 7 RX7 yX7_state wsX7_state) := goodIn_app (goodIn_of _ (by decide +kernel)) ggL_state_X7_state
set_option maxRecDepth 20000 in
theorem ggL_takeBack_X7_takeBack : GoodIn wsL_takeBack wsX7_takeBack := goodIn_ca (goodIn_r _ [6, 7, 8, 9, 10, 11, 12, 5, 13, 14, 15, 16, 17, 18, 19, 20, 21, 22, 23, 24, 25, 26, 27, 28, 29, 30, 31, 32, 33, 34, 35, 36, 37, 38, 39, 40, 41, 42, 43, 44, 45, 46, 47, 48, 49, 50, 51, 52, 53, 54, 55, 56, 57, 58, 59, 60, 61, 62, 63, 64, 65, 66, 67, 68, 69, 70, 71, 72, 73, 74, 75, 76, 77, 78, 79, 80, 81, 82, 83] (by decide +kernel) (by decide +kernel)) (goodIn_sub (fun _ h => List.mem_cons_of_mem _ (List.mem_append_right _ h)) (by decide +kernel))
set_option maxRecDepth 20000 in
theorem gL_takeBack_X7_takeBack : GoodIn wsL_takeBack (wsV RL 17 RX7 yX7_takeBack wsX7_takeBack) := goodIn_app (goodIn_of _ (by decide +kernel)) ggL_takeBack_X7_takeBack
set_option maxRecDepth 20000 in
theorem ggL_termAt_X7_termAt : GoodIn wsL_termAt wsX7_termAt := goodIn_ca (goodIn_ca (goodIn_r _ [7, 8, 9, 10, 11, 12, 13, 14, 15, 6, 16, 17, 18, 19, 20, 21, 22, 23, 24, 25, 26, 27, 28, 29, 30, 31, 32, 33, 34, 35, 36, 37, 38, 39, 40, 41, 42, 43, 44, 45, 46, 47, 48, 49, 50, 51, 52, 53, 54, 55, 56, 57, 58, 59, 60, 61, 62, 63, 64, 65, 66, 67, 68, 69, 70, 71, 72, 73, 74, 75] (by decide +kernel) (by decide +kernel)) (goodIn_sub (fun _ h => List.mem_cons_of_mem _ (List.mem_append_left _ (List.mem_append_right _ h))) (by decide +kernel))) (goodIn_sub (fun _ h => List.mem_cons_of_mem _ (List.mem_append_right _ h)) (by decide +kernel))
set_option maxRecDepth 20000 in
theorem gL_termAt_X7_termAt : GoodIn wsL_termAt (wsV RL 20 RX7 yX7_termAt wsX7_termAt) := goodIn_app (goodIn_of _ (by decide +kernel)) ggL_termAt_X7_termAt
set_option maxRecDepth 20000 in
theorem ggL_numberOf_X7_numberOf : GoodIn wsL_numberOf wsX7_numberOf := goodIn_ca (goodIn_r _ [6, 7, 8, 9, 10, 11, 5, 12, 13, 14, 15, 16, 17, 18, 19, 20, 21, 22, 23, 24, 25, 26, 27, 28, 29, 30, 31, 32, 33, 34, 35] (by decide +kernel) (by decide +kernel)) (goodIn_sub (fun _ h => List.mem_cons_of_mem _ (List.mem_append_right _ h)) (by decide +kernel))
set_option maxRecDepth 20000 in
theorem gL_numberOf_X7_numberOf : GoodIn wsL_numberOf (wsV RL 26 RX7 yX7_numberOf wsX7_numberOf) := goodIn_app (goodIn_of _ (by decide +kernel)) ggL_numberOf_X7_numberOf
set_option maxRecDepth 20000 in
theorem ggL_termOf_X7_termOf : GoodIn wsL_termOf wsX7_termOf := goodIn_ca (goodIn_r _ [6, 7, 8, 9, 10, 11, 12, 13, 14, 15, 16, 17, 18, 19, 20, 21, 5, 22, 23, 24, 25, 26, 27, 28, 29, 30, 31, 32] (by decide +kernel) (by decide +kernel)) (goodIn_sub (fun _ h => List.mem_cons_of_mem _ (List.mem_append_right _ h)) (by decide +kernel))
set_option maxRecDepth 20000 in
theorem gL_termOf_X7_termOf : GoodIn wsL_termOf (wsV RL 30 RX7 yX7_termOf wsX7_termOf) := goodIn_app (goodIn_of _ (by decide +kernel)) ggL_termOf_X7_termOf
set_option maxRecDepth 20000 in
theorem ggL_count_X7_count : GoodIn wsL_count wsX7_count := goodIn_ca (goodIn_r _ [6, 7, 8, 9, 10, 11, 12, 5, 13, 14, 15, 16, 17, 18, 19, 20, 21, 22, 23, 24, 25, 26, 27, 28, 29, 30, 31, 32, 33, 34, 35, 36, 37, 38, 39, 40, 41, 42, 43, 44, 45, 46, 47, 48, 49, 50, 51, 52, 53, 54, 55, 56, 57, 58, 59, 60, 61, 62, 63, 64, 65, 66, 67, 68, 69, 70, 71, 72, 73, 74, 75, 76, 77, 78, 79, 80, 81, 82, 83] (by decide +kernel) (by decide +kernel)) (goodIn_sub (fun _ h => List.mem_cons_of_mem _ (List.mem_append_right _ h)) (by decide +kernel))
set_option maxRecDepth 20000 in
theorem gL_count_X7_count : GoodIn wsL_count (wsV RL 33 RX7 yX7_count wsX7_count) := goodIn_app (goodIn_of _ (by decide +kernel)) ggL_count_X7_count
set_option maxRecDepth 20000 in
theorem ggL_seek_X7_seek : GoodIn wsL_seek wsX7_seek := goodIn_ca (goodIn_ca (goodIn_r _ [7, 8, 9, 10, 11, 12, 13, 14, 15, 6, 16, 17, 18, 19, 20, 21, 22, 23, 24, 25, 26, 27, 28, 29, 30, 31, 32, 33, 34, 35, 36, 37, 38, 39, 40, 41, 42, 43, 44, 45, 46, 47, 48, 49, 50, 51, 52, 53, 54, 55, 56, 57, 58, 59, 60, 61, 62, 63, 64, 65, 66, 67, 68, 69, 70, 71, 72] (by decide +kernel) (by decide +kernel)) (goodIn_sub (fun _ h => List.mem_cons_of_mem _ (List.mem_append_left _ (List.mem_append_right _ h))) (by decide +kernel))) (goodIn_sub (fun _ h => List.mem_cons_of_mem _ (List.mem_append_right _ h)) (by decide +kernel))
set_option maxRecDepth 20000 in
theorem gL_seek_X7_seek : GoodIn wsL_seek (wsV RL 36 RX7 yX7_seek wsX7_seek) := goodIn_app (goodIn_of _ (by decide +kernel)) ggL_seek_X7_seek
set_option maxRecDepth 20000 in
theorem ggL_addPattern_X7_addPattern : GoodIn wsL_addPattern wsX7_addPattern := goodIn_ca (goodIn_ca (goodIn_r _ [7, 8, 9, 10, 11, 12, 13, 14, 6, 15, 16, 17, 18, 19, 20, 21, 22, 23, 24, 25, 26, 27, 28, 29, 30, 31, 32, 33, 34, 35, 36, 37, 38, 39, 40, 41, 42, 43, 44, 45, 46, 47, 48, 49, 50, 51, 52, 53, 54, 55, 56, 57, 58, 59, 60] (by decide +kernel) (by decide +kernel)) (goodIn_sub (fun _ h => List.mem_cons_of_mem _ (List.mem_append_left _ (List.mem_append_right _ h))) (by decide +kernel))) (goodIn_sub (fun _ h => List.mem_cons_of_mem _ (List.mem_append_right _ h)) (by decide +kernel))
set_option maxRecDepth 20000 in
theorem gL_addPattern_X7_addPattern : GoodIn wsL_addPattern (wsV RL 40 RX7 yX7_addPattern wsX7_addPattern) := goodIn_app (goodIn_of _ (by decide +kernel)) ggL_addPattern_X7_addPattern
set_option maxRecDepth 20000 in
theorem ggL_matches_X7_matches : GoodIn wsL_matches wsX7_matches := goodIn_ca (goodIn_r _ [6, 7, 8, 9, 10, 11, 12, 13, 14, 15, 16, 17, 18, 19, 20, 21, 22, 23, 24, 25, 26, 27, 28, 29, 30, 31, 32, 33, 34, 35, 36, 37, 5, 38, 39, 40, 41, 42, 43, 44, 45, 46, 47, 48, 49, 50, 51, 52, 53, 54, 55, 56, 57, 58, 59, 60, 61, 62, 63, 64, 65, 66, 67, 68, 69, 70, 71, 72, 73, 74, 75, 76, 77, 78, 79, 80, 81, 82, 83, 84, 85, 86, 87, 88, 89, 90, 91, 92, 93, 94, 95, 96, 97, 98, 99, 100, 101, 102, 103, 104, 105, 106, 107, 108, 109, 110, 111, 112, 113, 114, 115, 116, 117, 118, 119, 120, 121, 122, 123, 124, 125, 126, 127, 128, 129, 130, 131, 132, 133, 134, 135, 136, 137, 138, 139, 140, 141, 142] (by decide +kernel) (by decide +kernel)) (goodIn_sub (fun _ h => List.mem_cons_of_mem _ (List.mem_append_right _ h)) (by decide +kernel))
set_option maxRecDepth 20000 in
theorem gL_matches_X7_matches : GoodIn wsL_matches (wsV RL 43 RX7 yX7_matches wsX7_matches) := goodIn_app (goodIn_of _ (by decide +kernel)) ggL_matches_X7_matches
set_option maxRecDepth 20000 in
theorem ggL_joined_X7_joined : GoodIn wsL_joined wsX7_joined := goodIn_ca (goodIn_r _ [6, 7, 8, 9, 10, 11, 12, 13, 14, 15, 16, 17, 18, 19, 20, 21, 22, 23, 24, 25, 26, 27, 28, 29, 30, 31, 32, 33, 34, 35, 36, 37, 5, 38, 39, 40, 41, 42, 43, 44, 45, 46, 47, 48, 49, 50, 51, 52, 53, 54, 55, 56, 57, 58, 59, 60, 61, 62, 63, 64, 65, 66, 67, 68, 69, 70, 71, 72, 73, 74, 75, 76, 77, 78, 79, 80, 81, 82, 83, 84, 85, 86, 87, 88, 89, 90, 91, 92, 93, 94, 95, 96, 97, 98, 99, 100, 101, 102, 103, 104, 105, 106, 107, 108, 109, 110, 111, 112, 113, 114, 115, 116, 117, 118, 119, 120, 121, 122, 123, 124, 125, 126, 127, 128, 129, 130, 131, 132, 133, 134, 135, 136, 137, 138, 139, 140, 141, 142, 143, 144, 145, 146, 147, 148, 149, 150, 151, 152, 153, 154, 155, 156, 157, 158, 159, 160, 161, 162] (by decide +kernel) (by decide +kernel)) (goodIn_sub (fun _ h => List.mem_cons_of_mem _ (List.mem_append_right _ h)) (by decide +kernel))
set_option maxRecDepth 20000 in
theorem gL_joined_X7_joined : GoodIn wsL_joined (wsV RL 46 RX7 yX7_joined wsX7_joined) := goodIn_app (goodIn_of _ (by decide +kernel)) ggL_joined_X7_joined
set_option maxRecDepth 20000 in
theorem ggL_answerByMerging_X7_answerByMerging : GoodIn wsL_answerByMerging wsX7_answerByMerging := goodIn_ca (goodIn_r _ [6, 7, 8, 9, 10, 11, 12, 5, 13, 14, 15, 16, 17, 18, 19, 20, 21, 22, 23, 24, 25, 26, 27, 28, 29, 30, 31, 32, 33, 34, 35, 36, 37, 38, 39, 40, 41, 42, 43, 44, 45, 46, 47, 48, 49, 50, 51, 52, 53, 54, 55, 56, 57, 58, 59, 60, 61, 62, 63, 64, 65, 66, 67, 68, 69, 70, 71, 72, 73, 74, 75, 76, 77, 78, 79, 80, 81, 82, 83, 84, 85, 86, 87, 88, 89, 90, 91, 92, 93, 94, 95, 96, 97, 98, 99, 100, 101, 102, 103, 104, 105, 106, 107, 108, 109, 110, 111, 112, 113, 114, 115, 116, 117, 118, 119, 120, 121, 122, 123, 124, 125, 126, 127, 128, 129, 130, 131, 132, 133, 134, 135, 136, 137, 138, 139, 140, 141, 142, 143, 144, 145, 146, 147, 148, 149, 150, 151, 152, 153, 154, 155, 156, 157, 158, 159, 160, 161, 162, 163, 164, 165, 166, 167, 168, 169, 170, 171, 172, 173, 174, 175, 176, 177, 178, 179, 180, 181, 182, 183, 184, 185, 186, 187, 188, 189, 190, 191, 192, 193, 194, 195, 196, 197, 198, 199, 200, 201, 202, 203, 204, 205, 206, 207, 208, 209, 210, 211, 212, 213, 214, 215, 216, 217, 218, 219, 220, 221, 222, 223, 224, 225, 226, 227, 228, 229, 230, 231, 232, 233, 234, 235, 236, 237, 238, 239, 240, 241, 242, 243, 244, 245, 246, 247, 248, 249, 250, 251, 252, 253, 254, 255, 256, 257, 258, 259, 260, 261, 262, 263, 264, 265, 266, 267, 268] (by decide +kernel) (by decide +kernel)) (goodIn_sub (fun _ h => List.mem_cons_of_mem _ (List.mem_append_right _ h)) (by decide +kernel))
set_option maxRecDepth 20000 in
theorem gL_answerByMerging_X7_answerByMerging : GoodIn wsL_answerByMerging (wsV RL 49 RX7 yX7_answerByMerging wsX7_answerByMerging) := goodIn_app (goodIn_of _ (by decide +kernel)) ggL_answerByMerging_X7_answerByMerging
set_option maxRecDepth 20000 in
theorem ggL_answerByVariables_X7_answerByVariables : GoodIn wsL_answerByVariables wsX7_answerByVariables := goodIn_ca (goodIn_r _ [6, 7, 8, 9, 10, 11, 12, 5, 13, 14, 15, 16, 17, 18, 19, 20, 21, 22, 23, 24, 25, 26, 27, 28, 29, 30, 31, 32, 33, 34, 35, 36, 37, 38, 39, 40, 41, 42, 43, 44, 45, 46, 47, 48, 49, 50, 51, 52, 53, 54, 55, 56, 57, 58, 59, 60, 61, 62, 63, 64, 65, 66, 67, 68, 69, 70, 71, 72, 73, 74, 75, 76, 77, 78, 79, 80, 81, 82, 83, 84, 85, 86, 87, 88, 89, 90, 91, 92, 93, 94, 95, 96, 97, 98, 99, 100, 101, 102, 103, 104, 105, 106, 107, 108, 109, 110, 111, 112, 113, 114, 115, 116, 117, 118, 119, 120, 121, 122, 123, 124, 125, 126, 127, 128, 129, 130, 131, 132, 133, 134, 135, 136, 137, 138, 139, 140, 141, 142, 143, 144, 145, 146, 147, 148, 149, 150, 151, 152, 153, 154, 155, 156, 157, 158, 159, 160, 161, 162, 163, 164, 165, 166, 167, 168, 169, 170, 171, 172, 173, 174, 175, 176, 177, 178, 179, 180, 181, 182, 183, 184, 185, 186, 187, 188, 189, 190, 191, 192, 193, 194, 195, 196, 197, 198, 199, 200, 201, 202, 203, 204, 205, 206, 207, 208, 209, 210, 211, 212, 213, 214, 215, 216, 217, 218, 219, 220, 221, 222, 223, 224, 225, 226, 227, 228, 229, 230, 231, 232, 233, 234, 235, 236, 237, 238, 239, 240, 241, 242, 243, 244, 245, 246, 247, 248, 249, 250, 251, 252, 253, 254, 255, 256, 257, 258, 259, 260, 261, 262, 263, 264, 265, 266, 267, 268, 269, 270, 271, 272, 273, 274, 275, 276, 277] (by decide +kernel) (by decide +kernel)) (goodIn_sub (fun _ h => List.mem_cons_of_mem _ (List.mem_append_right _ h)) (by decide +kernel))
set_option maxRecDepth 20000 in
theorem gL_answerByVariables_X7_answerByVariables : GoodIn wsL_answerByVariables (wsV RL 53 RX7 yX7_answerByVariables wsX7_answerByVariables) := goodIn_app (goodIn_of _ (by decide +kernel)) ggL_answerByVariables_X7_answerByVariables
set_option maxRecDepth 20000 in
theorem ggL_answerByLoops_X7_answerByLoops : GoodIn wsL_answerByLoops wsX7_answerByLoops := goodIn_ca (goodIn_r _ [6, 7, 8, 9, 10, 11, 12, 5, 13, 14, 15, 16, 17, 18, 19, 20, 21, 22, 23, 24, 25, 26, 27, 28, 29, 30, 31, 32, 33, 34, 35, 36, 37, 38, 39, 40, 41, 42, 43, 44, 45, 46, 47, 48, 49, 50, 51, 52, 53, 54, 55, 56, 57, 58, 59, 60, 61, 62, 63, 64, 65, 66, 67, 68, 69, 70, 71, 72, 73, 74, 75, 76, 77, 78, 79, 80, 81, 82, 83, 84, 85, 86, 87, 88, 89, 90, 91, 92, 93, 94, 95, 96, 97, 98, 99, 100, 101, 102, 103, 104, 105, 106, 107, 108, 109, 110, 111, 112, 113, 114, 115, 116, 117, 118, 119, 120, 121, 122, 123, 124, 125, 126, 127, 128, 129, 130, 131, 132, 133, 134, 135, 136, 137, 138, 139, 140, 141, 142, 143, 144, 145, 146, 147, 148, 149, 150, 151, 152, 153, 154, 155, 156, 157, 158, 159, 160, 161, 162, 163, 164, 165, 166, 167, 168, 169, 170, 171, 172, 173, 174, 175, 176, 177, 178, 179, 180, 181, 182, 183, 184, 185, 186, 187, 188, 189, 190, 191, 192, 193, 194, 195, 196, 197, 198, 199, 200, 201, 202, 203, 204, 205, 206, 207, 208, 209, 210, 211, 212, 213, 214, 215, 216, 217, 218, 219, 220, 221, 222, 223, 224, 225, 226, 227, 228, 229, 230, 231, 232, 233, 234, 235, 236, 237, 238, 239, 240, 241, 242, 243, 244] (by decide +kernel) (by decide +kernel)) (goodIn_sub (fun _ h => List.mem_cons_of_mem _ (List.mem_append_right _ h)) (by decide +kernel))
set_option maxRecDepth 20000 in
theorem gL_answerByLoops_X7_answerByLoops : GoodIn wsL_answerByLoops (wsV RL 56 RX7 yX7_answerByLoops wsX7_answerByLoops) := goodIn_app (goodIn_of _ (by decide +kernel)) ggL_answerByLoops_X7_answerByLoops
set_option maxRecDepth 20000 in
theorem ggL_answer_X7_answer : GoodIn wsL_answer wsX7_answer := goodIn_ca (goodIn_ca (goodIn_r _ [7, 8, 9, 10, 11, 12, 13, 14, 15, 16, 17, 6, 18, 19, 20, 21, 22, 23, 24, 25, 26, 27, 28, 29, 30, 31, 32, 33, 34, 35, 36, 37, 38, 39, 40, 41, 42, 43, 44, 45, 46] (by decide +kernel) (by decide +kernel)) (goodIn_sub (fun _ h => List.mem_cons_of_mem _ (List.mem_append_left _ (List.mem_append_right _ h))) (by decide +kernel))) (goodIn_sub (fun _ h => List.mem_cons_of_mem _ (List.mem_append_right _ h)) (by decide +kernel))
set_option maxRecDepth 20000 in
theorem gL_answer_X7_answer : GoodIn wsL_answer (wsV RL 59 RX7 yX7_answer wsX7_answer) := goodIn_app (goodIn_of _ (by decide +kernel)) ggL_answer_X7_answer
set_option maxRecDepth 20000 in
theorem ggL_termsFor_X7_termsFor : GoodIn wsL_termsFor wsX7_termsFor := goodIn_ca (goodIn_r _ [6, 7, 8, 9, 10, 11, 12, 13, 5, 14, 15, 16, 17, 18, 19, 20, 21, 22, 23, 24, 25, 26, 27, 28, 29, 30, 31, 32, 33, 34, 35, 36, 37, 38, 39, 40] (by decide +kernel) (by decide +kernel)) (goodIn_sub (fun _ h => List.mem_cons_of_mem _ (List.mem_append_right _ h)) (by decide +kernel))
set_option maxRecDepth 20000 in
theorem gL_termsFor_X7_termsFor : GoodIn wsL_termsFor (wsV RL 62 RX7 yX7_termsFor wsX7_termsFor) := goodIn_app (goodIn_of _ (by decide +kernel)) ggL_termsFor_X7_termsFor
set_option maxRecDepth 20000 in
theorem ggL_law_X7_init : GoodIn wsL_law wsX7_init := goodIn_r _ [9, 10, 11, 12, 13, 14, 15, 16, 17, 18, 19, 20, 21, 22, 23, 24, 25, 26, 27, 28, 29, 30, 31, 32, 33, 34, 35, 36, 37, 38, 39, 40, 41, 42, 43, 44, 45, 46, 47, 48, 49, 50, 51, 52, 53, 54, 55, 56, 57, 58, 59, 60, 61, 62, 63, 64, 65, 66, 67, 68, 69, 70, 71, 72, 73, 74, 75, 76, 77, 78, 79, 80, 81, 82, 83, 84, 85, 86, 87, 88, 89, 90, 91, 780, 781, 782, 759, 760, 761, 762, 763, 764, 765, 783, 784, 785, 786, 787, 788, 789, 790, 791, 792, 793, 794, 795, 796, 797, 798, 799, 800, 801, 802, 803] (by decide +kernel) (by decide +kernel)
set_option maxRecDepth 20000 in
theorem gL_law_X7_init : GoodIn wsL_law (wsX7_init) := ggL_law_X7_init
set_option maxRecDepth 20000 in
theorem ggL_law_X8_init : GoodIn wsL_law wsX8_init := goodIn_r _ [94, 95, 11, 12, 29, 96, 97, 98, 99, 100, 101, 102, 766, 767, 768, 769, 770, 771, 772, 773, 774, 775, 776, 777, 778, 779] (by decide +kernel) (by decide +kernel)
set_option maxRecDepth 20000 in
theorem gL_law_X8_init : GoodIn wsL_law (wsX8_init) := ggL_law_X8_init
set_option maxRecDepth 20000 in
theorem ggL_law_L_state : GoodIn wsL_law wsL_state := goodIn_ca (goodIn_ca (goodIn_r _ [106, 107, 108, 109, 110, 111, 2, 112, 113, 114, 115, 116, 20, 16, 117, 118, 119, 120, 121, 122, 15, 123, 124, 125, 126, 127, 37, 128, 129, 130, 131, 132, 133, 134, 135, 136, 137, 138, 19, 139, 45, 140, 141, 142, 44, 143, 52, 51, 144, 145, 146, 147, 148, 149, 150, 151, 152, 153, 154, 155, 156, 157, 158, 159, 38, 160, 161, 162, 163, 36, 164, 165, 166, 167, 168, 169, 170, 171, 172, 173, 46, 47, 174, 175, 176, 177, 178, 179, 180, 759, 760, 761, 762, 763, 764, 765, 780, 781, 782, 783, 784, 785, 792, 793] (by decide +kernel) (by decide +kernel)) (goodIn_sub (fun _ h => List.mem_append_left _ (List.mem_append_left _ (List.mem_append_right _ h))) (by decide +kernel))) (goodIn_sub (fun _ h => List.mem_append_left _ (List.mem_append_right _ h)) (by decide +kernel))
set_option maxRecDepth 20000 in
theorem gL_law_L_state : GoodIn wsL_law (va_wsS RL 69 yL_state wsL_state) := goodIn_app (goodIn_of _ (by decide +kernel)) ggL_law_L_state
set_option maxRecDepth 20000 in
theorem ggL_law_X8_state : GoodIn wsL_law wsX8_state := goodIn_r _ [184, 185, 186, 187, 98, 188, 189, 5, 190, 191, 192, 193, 194, 195, 196, 197, 97, 198, 199, 200, 201, 96, 202, 203, 204, 205, 766, 767, 768, 769, 770, 771, 772, 773, 774, 775, 776, 777, 778, 779] (by decide +kernel) (by decide +kernel)
set_option maxRecDepth 20000 in
theorem gL_law_X8_state : GoodIn wsL_law (wsV RL 74 RX8 yX8_state wsX8_state) := goodIn_app (goodIn_of _ (by decide +kernel)) ggL_law_X8_state
set_option maxRecDepth 20000 in
theorem ggL_law_X8_thrown : GoodIn wsL_law wsX8_thrown := goodIn_r _ [209, 185, 766, 767, 768, 769, 770, 771, 772, 773, 774, 775, 776, 777, 778, 779] (by decide +kernel) (by decide +kernel)
set_option maxRecDepth 20000 in
theorem gL_law_X8_thrown : GoodIn wsL_law (wsV RL 75 RX8 yX8_thrown wsX8_thrown) := goodIn_app (goodIn_of _ (by decide +kernel)) ggL_law_X8_thrown
set_option maxRecDepth 20000 in
theorem ggL_law_L_takeBack : GoodIn wsL_law wsL_takeBack := goodIn_ca (goodIn_r _ [212, 107, 213, 214, 215, 2, 216, 113, 114, 16, 20, 117, 118, 119, 120, 121, 122, 15, 123, 124, 125, 126, 127, 37, 128, 129, 130, 131, 132, 133, 134, 135, 136, 137, 138, 19, 139, 45, 140, 141, 142, 44, 143, 52, 51, 144, 145, 146, 147, 217, 218, 219, 220, 170, 171, 172, 173, 46, 47, 174, 175, 176, 221, 222, 223, 224, 225, 164, 165, 759, 760, 761, 762, 763, 764, 765, 780, 781, 782, 783, 784, 785, 792, 793] (by decide +kernel) (by decide +kernel)) (goodIn_sub (fun _ h => List.mem_append_left _ (List.mem_append_left _ (List.mem_append_right _ h))) (by decide +kernel))
set_option maxRecDepth 20000 in
theorem gL_law_L_takeBack : GoodIn wsL_law (va_wsS RL 78 yL_takeBack wsL_takeBack) := goodIn_app (goodIn_of _ (by decide +kernel)) ggL_law_L_takeBack
set_option maxRecDepth 20000 in
theorem ggL_law_X8_takeBack : GoodIn wsL_law wsX8_takeBack := goodIn_r _ [229, 185, 186, 98, 188, 189, 5, 190, 191, 192, 193, 194, 195, 196, 197, 97, 766, 767, 768, 769, 770, 771, 772, 773, 774, 775, 776, 777, 778, 779] (by decide +kernel) (by decide +kernel)
set_option maxRecDepth 20000 in
theorem gL_law_X8_takeBack : GoodIn wsL_law (wsV RL 80 RX8 yX8_takeBack wsX8_takeBack) := goodIn_app (goodIn_of _ (by decide +kernel)) ggL_law_X8_takeBack
set_option maxRecDepth 20000 in
theorem ggL_law_X7_triples : GoodIn wsL_law wsX7_triples := goodIn_r _ [233, 20, 148, 149, 150, 19, 151, 45, 152, 153, 154, 44, 155, 52, 759, 760, 761, 762, 763, 764, 765, 783, 784, 785, 792, 793] (by decide +kernel) (by decide +kernel)
set_option maxRecDepth 20000 in
theorem gL_law_X7_triples : GoodIn wsL_law (wsV RL 81 RX7 yX7_triples wsX7_triples) := goodIn_app (goodIn_of _ (by decide +kernel)) ggL_law_X7_triples
set_option maxRecDepth 20000 in
theorem ggL_law_X8_triples : GoodIn wsL_law wsX8_triples := goodIn_r _ [237, 185, 186, 766, 767, 768, 769, 770, 771, 772, 773, 774, 775, 776, 777, 778, 779] (by decide +kernel) (by decide +kernel)
set_option maxRecDepth 20000 in
theorem gL_law_X8_triples : GoodIn wsL_law (wsV RL 84 RX8 yX8_triples wsX8_triples) := goodIn_app (goodIn_of _ (by decide +kernel)) ggL_law_X8_triples
set_option maxRecDepth 20000 in
theorem ggL_law_L_termAt : GoodIn wsL_law wsL_termAt := goodIn_ca (goodIn_ca (goodIn_r _ [240, 107, 241, 242, 243, 244, 2, 245, 113, 114, 246, 247, 20, 16, 248, 249, 250, 148, 149, 150, 19, 151, 45, 152, 153, 154, 44, 155, 52, 251, 252, 253, 254, 170, 171, 172, 173, 46, 47, 255, 256, 257, 258, 51, 132, 133, 259, 260, 176, 261, 262, 263, 264, 134, 135, 265, 266, 267, 15, 268, 36, 759, 760, 761, 762, 763, 764, 765, 783, 784, 785, 792, 793, 780, 781, 782] (by decide +kernel) (by decide +kernel)) (goodIn_sub (fun _ h => List.mem_append_left _ (List.mem_append_left _ (List.mem_append_right _ h))) (by decide +kernel))) (goodIn_sub (fun _ h => List.mem_append_right _ h) (by decide +kernel))
set_option maxRecDepth 20000 in
theorem gL_law_L_termAt : GoodIn wsL_law (va_wsS RL 85 yL_termAt wsL_termAt) := goodIn_app (goodIn_of _ (by decide +kernel)) ggL_law_L_termAt
set_option maxRecDepth 20000 in
theorem ggL_law_X8_termAt : GoodIn wsL_law wsX8_termAt := goodIn_r _ [272, 186, 185, 97, 98, 191, 192, 5, 193, 273, 274, 275, 276, 277, 278, 279, 280, 766, 767, 768, 769, 770, 771, 772, 773, 774, 775, 776, 777, 778, 779] (by decide +kernel) (by decide +kernel)
set_option maxRecDepth 20000 in
theorem gL_law_X8_termAt : GoodIn wsL_law (wsV RL 87 RX8 yX8_termAt wsX8_termAt) := goodIn_app (goodIn_of _ (by decide +kernel)) ggL_law_X8_termAt
set_option maxRecDepth 20000 in
theorem ggL_law_X7_terms : GoodIn wsL_law wsX7_terms := goodIn_r _ [284, 16, 285, 286, 287, 15, 288, 38, 759, 760, 761, 762, 763, 764, 765, 780, 781, 782] (by decide +kernel) (by decide +kernel)
set_option maxRecDepth 20000 in
theorem gL_law_X7_terms : GoodIn wsL_law (wsV RL 88 RX7 yX7_terms wsX7_terms) := goodIn_app (goodIn_of _ (by decide +kernel)) ggL_law_X7_terms
set_option maxRecDepth 20000 in
theorem ggL_law_X8_terms : GoodIn wsL_law wsX8_terms := goodIn_r _ [292, 185, 187, 766, 767, 768, 769, 770, 771, 772, 773, 774, 775, 776, 777, 778, 779] (by decide +kernel) (by decide +kernel)
set_option maxRecDepth 20000 in
theorem gL_law_X8_terms : GoodIn wsL_law (wsV RL 91 RX8 yX8_terms wsX8_terms) := goodIn_app (goodIn_of _ (by decide +kernel)) ggL_law_X8_terms
set_option maxRecDepth 20000 in
theorem ggL_law_L_numberOf : GoodIn wsL_law wsL_numberOf := goodIn_ca (goodIn_r _ [295, 107, 296, 297, 298, 2, 299, 113, 114, 16, 117, 118, 119, 300, 129, 130, 15, 131, 37, 132, 133, 301, 125, 126, 127, 128, 759, 760, 761, 762, 763, 764, 765, 780, 781, 782] (by decide +kernel) (by decide +kernel)) (goodIn_sub (fun _ h => List.mem_append_left _ (List.mem_append_left _ (List.mem_append_right _ h))) (by decide +kernel))
set_option maxRecDepth 20000 in
theorem gL_law_L_numberOf : GoodIn wsL_law (va_wsS RL 92 yL_numberOf wsL_numberOf) := goodIn_app (goodIn_of _ (by decide +kernel)) ggL_law_L_numberOf
set_option maxRecDepth 20000 in
theorem ggL_law_X8_numberOf : GoodIn wsL_law wsX8_numberOf := goodIn_r _ [305, 185, 96, 191, 192, 5, 193, 766, 767, 768, 769, 770, 771, 772, 773, 774, 775, 776, 777, 778, 779] (by decide +kernel) (by decide +kernel)
set_option maxRecDepth 20000 in
theorem gL_law_X8_numberOf : GoodIn wsL_law (wsV RL 95 RX8 yX8_numberOf wsX8_numberOf) := goodIn_app (goodIn_of _ (by decide +kernel)) ggL_law_X8_numberOf
set_option maxRecDepth 20000 in
theorem ggL_law_L_termOf : GoodIn wsL_law wsL_termOf := goodIn_ca (goodIn_r _ [308, 241, 309, 310, 311, 2, 312, 246, 247, 16, 285, 286, 287, 15, 288, 38, 265, 266, 267, 268, 36, 132, 133, 759, 760, 761, 762, 763, 764, 765, 780, 781, 782] (by decide +kernel) (by decide +kernel)) (goodIn_sub (fun _ h => List.mem_append_right _ h) (by decide +kernel))
set_option maxRecDepth 20000 in
theorem gL_law_L_termOf : GoodIn wsL_law (va_wsS RL 96 yL_termOf wsL_termOf) := goodIn_app (goodIn_of _ (by decide +kernel)) ggL_law_L_termOf
set_option maxRecDepth 20000 in
theorem ggL_law_X8_termOf : GoodIn wsL_law wsX8_termOf := goodIn_r _ [316, 187, 185, 97, 191, 192, 5, 193, 766, 767, 768, 769, 770, 771, 772, 773, 774, 775, 776, 777, 778, 779] (by decide +kernel) (by decide +kernel)
set_option maxRecDepth 20000 in
theorem gL_law_X8_termOf : GoodIn wsL_law (wsV RL 98 RX8 yX8_termOf wsX8_termOf) := goodIn_app (goodIn_of _ (by decide +kernel)) ggL_law_X8_termOf
set_option maxRecDepth 20000 in
theorem ggL_law_L_count : GoodIn wsL_law wsL_count := goodIn_ca (goodIn_r _ [319, 107, 320, 321, 322, 2, 323, 113, 114, 16, 20, 324, 325, 326, 327, 328, 329, 264, 134, 135, 120, 121, 122, 15, 123, 124, 125, 126, 127, 37, 128, 129, 130, 131, 132, 133, 330, 331, 332, 261, 262, 263, 333, 334, 335, 19, 336, 337, 170, 171, 172, 173, 46, 47, 45, 174, 175, 176, 338, 145, 146, 44, 147, 52, 51, 339, 340, 341, 342, 759, 760, 761, 762, 763, 764, 765, 780, 781, 782, 783, 784, 785, 792, 793] (by decide +kernel) (by decide +kernel)) (goodIn_sub (fun _ h => List.mem_append_left _ (List.mem_append_left _ (List.mem_append_right _ h))) (by decide +kernel))
set_option maxRecDepth 20000 in
theorem gL_law_L_count : GoodIn wsL_law (va_wsS RL 99 yL_count wsL_count) := goodIn_app (goodIn_of _ (by decide +kernel)) ggL_law_L_count
set_option maxRecDepth 20000 in
theorem ggL_law_X8_count : GoodIn wsL_law wsX8_count := goodIn_r _ [346, 185, 186, 97, 98, 188, 189, 5, 190, 191, 192, 193, 766, 767, 768, 769, 770, 771, 772, 773, 774, 775, 776, 777, 778, 779] (by decide +kernel) (by decide +kernel)
set_option maxRecDepth 20000 in
theorem gL_law_X8_count : GoodIn wsL_law (wsV RL 101 RX8 yX8_count wsX8_count) := goodIn_app (goodIn_of _ (by decide +kernel)) ggL_law_X8_count
set_option maxRecDepth 20000 in
theorem ggL_law_X7_orderFor : GoodIn wsL_law wsX7_orderFor := goodIn_r _ [350, 327, 328, 2, 329, 264, 134, 135, 330, 331, 332, 261, 262, 263] (by decide +kernel) (by decide +kernel)
set_option maxRecDepth 20000 in
theorem gL_law_X7_orderFor : GoodIn wsL_law (wsV RL 102 RX7 yX7_orderFor wsX7_orderFor) := goodIn_app (goodIn_of _ (by decide +kernel)) ggL_law_X7_orderFor
set_option maxRecDepth 20000 in
theorem ggL_law_X8_orderFor : GoodIn wsL_law wsX8_orderFor := goodIn_r _ [354, 185, 766, 767, 768, 769, 770, 771, 772, 773, 774, 775, 776, 777, 778, 779] (by decide +kernel) (by decide +kernel)
set_option maxRecDepth 20000 in
theorem gL_law_X8_orderFor : GoodIn wsL_law (wsV RL 106 RX8 yX8_orderFor wsX8_orderFor) := goodIn_app (goodIn_of _ (by decide +kernel)) ggL_law_X8_orderFor
set_option maxRecDepth 20000 in
theorem ggL_law_L_seek : GoodIn wsL_law wsL_seek := goodIn_ca (goodIn_ca (goodIn_r _ [357, 107, 108, 358, 359, 360, 2, 361, 113, 114, 115, 116, 16, 20, 248, 249, 250, 117, 118, 119, 300, 129, 130, 15, 131, 37, 132, 133, 301, 125, 126, 127, 128, 264, 134, 135, 339, 340, 341, 19, 342, 170, 171, 172, 173, 46, 47, 45, 174, 175, 176, 338, 145, 146, 44, 147, 52, 51, 759, 760, 761, 762, 763, 764, 765, 780, 781, 782, 783, 784, 785, 792, 793] (by decide +kernel) (by decide +kernel)) (goodIn_sub (fun _ h => List.mem_append_left _ (List.mem_append_left _ (List.mem_append_right _ h))) (by decide +kernel))) (goodIn_sub (fun _ h => List.mem_append_left _ (List.mem_append_right _ h)) (by decide +kernel))
set_option maxRecDepth 20000 in
theorem gL_law_L_seek : GoodIn wsL_law (va_wsS RL 107 yL_seek wsL_seek) := goodIn_app (goodIn_of _ (by decide +kernel)) ggL_law_L_seek
set_option maxRecDepth 20000 in
theorem ggL_law_X8_seek : GoodIn wsL_law wsX8_seek := goodIn_r _ [365, 185, 96, 186, 98, 191, 192, 5, 193, 766, 767, 768, 769, 770, 771, 772, 773, 774, 775, 776, 777, 778, 779] (by decide +kernel) (by decide +kernel)
set_option maxRecDepth 20000 in
theorem gL_law_X8_seek : GoodIn wsL_law (wsV RL 110 RX8 yX8_seek wsX8_seek) := goodIn_app (goodIn_of _ (by decide +kernel)) ggL_law_X8_seek
set_option maxRecDepth 20000 in
theorem ggL_law_X7_forget : GoodIn wsL_law wsX7_forget := goodIn_r _ [369, 24, 370, 371, 372, 23, 373, 62, 759, 760, 761, 762, 763, 764, 765, 786, 787, 788, 789] (by decide +kernel) (by decide +kernel)
set_option maxRecDepth 20000 in
theorem gL_law_X7_forget : GoodIn wsL_law (wsV RL 111 RX7 yX7_forget wsX7_forget) := goodIn_app (goodIn_of _ (by decide +kernel)) ggL_law_X7_forget
set_option maxRecDepth 20000 in
theorem ggL_law_X8_forget : GoodIn wsL_law wsX8_forget := goodIn_r _ [377, 185, 378, 766, 767, 768, 769, 770, 771, 772, 773, 774, 775, 776, 777, 778, 779] (by decide +kernel) (by decide +kernel)
set_option maxRecDepth 20000 in
theorem gL_law_X8_forget : GoodIn wsL_law (wsV RL 114 RX8 yX8_forget wsX8_forget) := goodIn_app (goodIn_of _ (by decide +kernel)) ggL_law_X8_forget
set_option maxRecDepth 20000 in
theorem ggL_law_L_addPattern : GoodIn wsL_law wsL_addPattern := goodIn_ca (goodIn_ca (goodIn_r _ [381, 107, 108, 382, 383, 384, 2, 385, 113, 114, 115, 116, 24, 386, 387, 388, 389, 390, 391, 23, 392, 62, 393, 394, 395, 396, 397, 398, 399, 400, 60, 61, 59, 401, 402, 403, 58, 404, 66, 68, 164, 165, 405, 406, 407, 408, 759, 760, 761, 762, 763, 764, 765, 786, 787, 788, 789, 794, 795, 796, 797] (by decide +kernel) (by decide +kernel)) (goodIn_sub (fun _ h => List.mem_append_left _ (List.mem_append_left _ (List.mem_append_right _ h))) (by decide +kernel))) (goodIn_sub (fun _ h => List.mem_append_left _ (List.mem_append_right _ h)) (by decide +kernel))
set_option maxRecDepth 20000 in
theorem gL_law_L_addPattern : GoodIn wsL_law (va_wsS RL 115 yL_addPattern wsL_addPattern) := goodIn_app (goodIn_of _ (by decide +kernel)) ggL_law_L_addPattern
set_option maxRecDepth 20000 in
theorem ggL_law_X8_addPattern : GoodIn wsL_law wsX8_addPattern := goodIn_r _ [412, 378, 185, 99, 188, 189, 5, 190, 191, 192, 193, 766, 767, 768, 769, 770, 771, 772, 773, 774, 775, 776, 777, 778, 779] (by decide +kernel) (by decide +kernel)
set_option maxRecDepth 20000 in
theorem gL_law_X8_addPattern : GoodIn wsL_law (wsV RL 117 RX8 yX8_addPattern wsX8_addPattern) := goodIn_app (goodIn_of _ (by decide +kernel)) ggL_law_X8_addPattern
set_option maxRecDepth 20000 in
theorem ggL_law_X7_patterns : GoodIn wsL_law wsX7_patterns := goodIn_r _ [416, 24, 389, 390, 391, 23, 392, 62, 759, 760, 761, 762, 763, 764, 765, 786, 787, 788, 789] (by decide +kernel) (by decide +kernel)
set_option maxRecDepth 20000 in
theorem gL_law_X7_patterns : GoodIn wsL_law (wsV RL 118 RX7 yX7_patterns wsX7_patterns) := goodIn_app (goodIn_of _ (by decide +kernel)) ggL_law_X7_patterns
set_option maxRecDepth 20000 in
theorem ggL_law_X8_patterns : GoodIn wsL_law wsX8_patterns := goodIn_r _ [420, 185, 378, 766, 767, 768, 769, 770, 771, 772, 773, 774, 775, 776, 777, 778, 779] (by decide +kernel) (by decide +kernel)
set_option maxRecDepth 20000 in
theorem gL_law_X8_patterns : GoodIn wsL_law (wsV RL 121 RX8 yX8_patterns wsX8_patterns) := goodIn_app (goodIn_of _ (by decide +kernel)) ggL_law_X8_patterns
set_option maxRecDepth 20000 in
theorem ggL_law_L_matches : GoodIn wsL_law wsL_matches := goodIn_ca (goodIn_r _ [423, 241, 424, 425, 426, 2, 427, 246, 247, 24, 16, 20, 389, 390, 391, 23, 392, 62, 428, 429, 430, 431, 397, 398, 399, 400, 60, 61, 59, 432, 433, 434, 58, 435, 67, 66, 69, 132, 133, 436, 125, 126, 15, 127, 37, 128, 129, 130, 131, 164, 165, 437, 438, 439, 440, 441, 442, 134, 135, 443, 444, 445, 446, 447, 448, 449, 450, 451, 331, 332, 261, 262, 263, 264, 452, 334, 335, 19, 336, 337, 170, 171, 172, 173, 46, 47, 45, 174, 175, 176, 338, 145, 146, 44, 147, 52, 51, 453, 340, 341, 342, 454, 252, 253, 254, 255, 256, 257, 258, 259, 260, 455, 456, 457, 458, 459, 460, 461, 462, 463, 759, 760, 761, 762, 763, 764, 765, 786, 787, 788, 789, 794, 795, 796, 797, 780, 781, 782, 783, 784, 785, 792, 793] (by decide +kernel) (by decide +kernel)) (goodIn_sub (fun _ h => List.mem_append_right _ h) (by decide +kernel))
set_option maxRecDepth 20000 in
theorem gL_law_L_matches : GoodIn wsL_law (va_wsS RL 122 yL_matches wsL_matches) := goodIn_app (goodIn_of _ (by decide +kernel)) ggL_law_L_matches
set_option maxRecDepth 20000 in
theorem ggL_law_X8_matches : GoodIn wsL_law wsX8_matches := goodIn_r _ [467, 378, 185, 191, 192, 5, 193, 468, 469, 470, 471, 186, 472, 473, 474, 475, 100, 476, 477, 478, 479, 99, 98, 97, 766, 767, 768, 769, 770, 771, 772, 773, 774, 775, 776, 777, 778, 779] (by decide +kernel) (by decide +kernel)
set_option maxRecDepth 20000 in
theorem gL_law_X8_matches : GoodIn wsL_law (wsV RL 124 RX8 yX8_matches wsX8_matches) := goodIn_app (goodIn_of _ (by decide +kernel)) ggL_law_X8_matches
set_option maxRecDepth 20000 in
theorem ggL_law_X7_variables : GoodIn wsL_law wsX7_variables := goodIn_r _ [483, 24, 484, 485, 486, 23, 487, 62, 397, 398, 399, 400, 60, 61, 59, 488, 489, 490, 58, 491, 68, 759, 760, 761, 762, 763, 764, 765, 786, 787, 788, 789, 794, 795, 796, 797] (by decide +kernel) (by decide +kernel)
set_option maxRecDepth 20000 in
theorem gL_law_X7_variables : GoodIn wsL_law (wsV RL 125 RX7 yX7_variables wsX7_variables) := goodIn_app (goodIn_of _ (by decide +kernel)) ggL_law_X7_variables
set_option maxRecDepth 20000 in
theorem ggL_law_X8_variables : GoodIn wsL_law wsX8_variables := goodIn_r _ [495, 185, 496, 497, 498, 5, 499, 378, 500, 501, 502, 503, 99, 766, 767, 768, 769, 770, 771, 772, 773, 774, 775, 776, 777, 778, 779] (by decide +kernel) (by decide +kernel)
set_option maxRecDepth 20000 in
theorem gL_law_X8_variables : GoodIn wsL_law (wsV RL 128 RX8 yX8_variables wsX8_variables) := goodIn_app (goodIn_of _ (by decide +kernel)) ggL_law_X8_variables
set_option maxRecDepth 20000 in
theorem ggL_law_X7_shape : GoodIn wsL_law wsX7_shape := goodIn_r _ [507, 24, 508, 509, 510, 23, 511, 62, 59, 512, 513, 514, 58, 515, 66, 132, 2, 133, 397, 398, 399, 400, 60, 61, 516, 517, 518, 519, 759, 760, 761, 762, 763, 764, 765, 786, 787, 788, 789, 794, 795, 796, 797] (by decide +kernel) (by decide +kernel)
set_option maxRecDepth 20000 in
theorem gL_law_X7_shape : GoodIn wsL_law (wsV RL 129 RX7 yX7_shape wsX7_shape) := goodIn_app (goodIn_of _ (by decide +kernel)) ggL_law_X7_shape
set_option maxRecDepth 20000 in
theorem ggL_law_X8_shape : GoodIn wsL_law wsX8_shape := goodIn_r _ [523, 185, 378, 99, 766, 767, 768, 769, 770, 771, 772, 773, 774, 775, 776, 777, 778, 779] (by decide +kernel) (by decide +kernel)
set_option maxRecDepth 20000 in
theorem gL_law_X8_shape : GoodIn wsL_law (wsV RL 132 RX8 yX8_shape wsX8_shape) := goodIn_app (goodIn_of _ (by decide +kernel)) ggL_law_X8_shape
set_option maxRecDepth 20000 in
theorem ggL_law_L_joined : GoodIn wsL_law wsL_joined := goodIn_ca (goodIn_r _ [526, 241, 527, 528, 529, 2, 530, 246, 247, 24, 16, 20, 389, 390, 391, 23, 392, 62, 428, 429, 430, 431, 397, 398, 399, 400, 60, 61, 59, 432, 433, 434, 58, 435, 67, 66, 69, 132, 133, 436, 125, 126, 15, 127, 37, 128, 129, 130, 131, 164, 165, 437, 438, 439, 440, 441, 442, 134, 135, 443, 444, 445, 446, 447, 448, 449, 450, 451, 331, 332, 261, 262, 263, 264, 452, 334, 335, 19, 336, 337, 170, 171, 172, 173, 46, 47, 45, 174, 175, 176, 338, 145, 146, 44, 147, 52, 51, 453, 340, 341, 342, 454, 252, 253, 254, 255, 256, 257, 258, 259, 260, 455, 456, 457, 458, 531, 532, 533, 534, 535, 536, 537, 538, 539, 87, 88, 89, 540, 541, 542, 543, 488, 489, 490, 491, 68, 544, 461, 462, 463, 759, 760, 761, 762, 763, 764, 765, 786, 787, 788, 789, 794, 795, 796, 797, 780, 781, 782, 783, 784, 785, 792, 793] (by decide +kernel) (by decide +kernel)) (goodIn_sub (fun _ h => List.mem_append_right _ h) (by decide +kernel))
set_option maxRecDepth 20000 in
theorem gL_law_L_joined : GoodIn wsL_law (va_wsS RL 133 yL_joined wsL_joined) := goodIn_app (goodIn_of _ (by decide +kernel)) ggL_law_L_joined
set_option maxRecDepth 20000 in
theorem ggL_law_X8_joined : GoodIn wsL_law wsX8_joined := goodIn_r _ [548, 378, 185, 191, 192, 5, 193, 500, 501, 502, 503, 99, 468, 469, 470, 471, 186, 472, 473, 474, 475, 100, 476, 477, 478, 479, 98, 97, 766, 767, 768, 769, 770, 771, 772, 773, 774, 775, 776, 777, 778, 779] (by decide +kernel) (by decide +kernel)
set_option maxRecDepth 20000 in
theorem gL_law_X8_joined : GoodIn wsL_law (wsV RL 135 RX8 yX8_joined wsX8_joined) := goodIn_app (goodIn_of _ (by decide +kernel)) ggL_law_X8_joined
set_option maxRecDepth 20000 in
theorem ggL_law_L_answerByMerging : GoodIn wsL_law wsL_answerByMerging := goodIn_ca (goodIn_r _ [551, 108, 552, 553, 554, 2, 555, 28, 24, 20, 556, 557, 558, 559, 115, 116, 16, 389, 390, 391, 23, 392, 62, 428, 429, 430, 431, 397, 398, 399, 400, 60, 61, 59, 432, 433, 434, 58, 435, 67, 66, 69, 132, 133, 436, 125, 126, 15, 127, 37, 128, 129, 130, 131, 164, 165, 437, 438, 439, 440, 441, 442, 134, 135, 443, 444, 445, 446, 447, 448, 449, 450, 451, 331, 332, 261, 262, 263, 264, 452, 334, 335, 19, 336, 337, 170, 171, 172, 173, 46, 47, 45, 174, 175, 176, 338, 145, 146, 44, 147, 52, 51, 453, 340, 341, 342, 454, 252, 253, 254, 255, 256, 257, 258, 259, 260, 455, 456, 457, 458, 560, 561, 562, 27, 563, 76, 77, 564, 565, 566, 75, 567, 568, 569, 570, 571, 83, 84, 85, 572, 573, 574, 575, 91, 576, 577, 578, 579, 90, 580, 581, 532, 533, 534, 535, 536, 537, 538, 539, 87, 88, 89, 540, 541, 542, 543, 488, 489, 490, 491, 68, 544, 461, 462, 463, 582, 583, 584, 585, 586, 587, 588, 589, 590, 591, 592, 593, 594, 595, 596, 597, 598, 599, 600, 601, 602, 603, 604, 82, 605, 606, 607, 608, 609, 610, 611, 612, 613, 614, 615, 616, 617, 618, 619, 620, 621, 622, 623, 624, 625, 626, 627, 32, 31, 30, 628, 629, 630, 631, 632, 633, 484, 485, 486, 487, 634, 635, 636, 759, 760, 761, 762, 763, 764, 765, 786, 787, 788, 789, 794, 795, 796, 797, 780, 781, 782, 783, 784, 785, 792, 793, 790, 791, 798, 799, 800, 801, 802, 803] (by decide +kernel) (by decide +kernel)) (goodIn_sub (fun _ h => List.mem_append_left _ (List.mem_append_right _ h)) (by decide +kernel))
set_option maxRecDepth 20000 in
theorem gL_law_L_answerByMerging : GoodIn wsL_law (va_wsS RL 136 yL_answerByMerging wsL_answerByMerging) := goodIn_app (goodIn_of _ (by decide +kernel)) ggL_law_L_answerByMerging
set_option maxRecDepth 20000 in
theorem ggL_law_X8_answerByMerging : GoodIn wsL_law wsX8_answerByMerging := goodIn_r _ [640, 641, 642, 643, 5, 644, 185, 378, 645, 646, 647, 102, 101, 648, 649, 650, 651, 186, 472, 473, 474, 475, 100, 476, 477, 478, 479, 99, 98, 97, 652, 653, 654, 655, 496, 497, 498, 499, 500, 501, 502, 503, 766, 767, 768, 769, 770, 771, 772, 773, 774, 775, 776, 777, 778, 779] (by decide +kernel) (by decide +kernel)
set_option maxRecDepth 20000 in
theorem gL_law_X8_answerByMerging : GoodIn wsL_law (wsV RL 139 RX8 yX8_answerByMerging wsX8_answerByMerging) := goodIn_app (goodIn_of _ (by decide +kernel)) ggL_law_X8_answerByMerging
set_option maxRecDepth 20000 in
theorem ggL_law_L_answerByVariables : GoodIn wsL_law wsL_answerByVariables := goodIn_ca (goodIn_r _ [658, 108, 659, 660, 661, 2, 662, 28, 24, 20, 556, 557, 558, 559, 115, 116, 16, 389, 390, 391, 23, 392, 62, 428, 429, 430, 431, 397, 398, 399, 400, 60, 61, 59, 432, 433, 434, 58, 435, 67, 66, 69, 132, 133, 436, 125, 126, 15, 127, 37, 128, 129, 130, 131, 164, 165, 437, 438, 439, 440, 441, 442, 134, 135, 443, 444, 445, 446, 447, 448, 449, 450, 451, 331, 332, 261, 262, 263, 264, 452, 334, 335, 19, 336, 337, 170, 171, 172, 173, 46, 47, 45, 174, 175, 176, 338, 145, 146, 44, 147, 52, 51, 453, 340, 341, 342, 454, 252, 253, 254, 255, 256, 257, 258, 259, 260, 455, 456, 457, 458, 663, 664, 665, 27, 666, 76, 564, 565, 566, 75, 567, 568, 569, 570, 571, 83, 84, 85, 572, 573, 574, 575, 91, 576, 577, 578, 579, 90, 667, 668, 669, 670, 544, 461, 462, 463, 591, 580, 581, 532, 533, 534, 535, 536, 537, 538, 539, 87, 88, 89, 540, 541, 542, 543, 488, 489, 490, 491, 68, 582, 583, 671, 672, 673, 674, 675, 612, 613, 614, 615, 616, 617, 618, 619, 620, 621, 622, 623, 584, 585, 586, 587, 77, 588, 589, 590, 592, 593, 594, 595, 596, 676, 677, 678, 679, 680, 681, 682, 683, 624, 625, 626, 627, 32, 31, 30, 628, 629, 630, 631, 632, 633, 484, 485, 486, 487, 634, 598, 599, 600, 601, 602, 603, 604, 82, 635, 636, 759, 760, 761, 762, 763, 764, 765, 786, 787, 788, 789, 794, 795, 796, 797, 780, 781, 782, 783, 784, 785, 792, 793, 790, 791, 798, 799, 800, 801, 802, 803] (by decide +kernel) (by decide +kernel)) (goodIn_sub (fun _ h => List.mem_append_left _ (List.mem_append_right _ h)) (by decide +kernel))
set_option maxRecDepth 20000 in
theorem gL_law_L_answerByVariables : GoodIn wsL_law (va_wsS RL 140 yL_answerByVariables wsL_answerByVariables) := goodIn_app (goodIn_of _ (by decide +kernel)) ggL_law_L_answerByVariables
set_option maxRecDepth 20000 in
theorem ggL_law_X8_answerByVariables : GoodIn wsL_law wsX8_answerByVariables := goodIn_r _ [687, 641, 642, 643, 5, 644, 185, 378, 645, 646, 647, 102, 101, 648, 649, 650, 651, 186, 472, 473, 474, 475, 100, 476, 477, 478, 479, 99, 98, 97, 652, 653, 654, 655, 496, 497, 498, 499, 500, 501, 502, 503, 766, 767, 768, 769, 770, 771, 772, 773, 774, 775, 776, 777, 778, 779] (by decide +kernel) (by decide +kernel)
set_option maxRecDepth 20000 in
theorem gL_law_X8_answerByVariables : GoodIn wsL_law (wsV RL 142 RX8 yX8_answerByVariables wsX8_answerByVariables) := goodIn_app (goodIn_of _ (by decide +kernel)) ggL_law_X8_answerByVariables
set_option maxRecDepth 20000 in
theorem ggL_law_L_answerByLoops : GoodIn wsL_law wsL_answerByLoops := goodIn_ca (goodIn_r _ [690, 108, 691, 692, 693, 2, 694, 28, 24, 20, 556, 557, 558, 559, 115, 116, 16, 389, 390, 391, 23, 392, 62, 428, 429, 430, 431, 397, 398, 399, 400, 60, 61, 59, 432, 433, 434, 58, 435, 67, 66, 69, 132, 133, 436, 125, 126, 15, 127, 37, 128, 129, 130, 131, 164, 165, 437, 438, 439, 440, 441, 442, 134, 135, 443, 444, 445, 446, 447, 448, 449, 450, 451, 331, 332, 261, 262, 263, 264, 452, 334, 335, 19, 336, 337, 170, 171, 172, 173, 46, 47, 45, 174, 175, 176, 338, 145, 146, 44, 147, 52, 51, 453, 340, 341, 342, 454, 252, 253, 254, 255, 256, 257, 258, 259, 260, 455, 456, 457, 458, 695, 696, 697, 27, 698, 76, 564, 565, 566, 75, 567, 568, 569, 570, 571, 83, 84, 85, 572, 573, 574, 575, 91, 576, 577, 578, 579, 90, 580, 582, 612, 613, 614, 615, 616, 617, 618, 619, 620, 621, 622, 623, 699, 700, 701, 702, 588, 589, 703, 704, 705, 706, 707, 153, 154, 155, 708, 594, 595, 596, 583, 489, 490, 491, 68, 624, 625, 626, 627, 32, 31, 30, 628, 629, 630, 631, 632, 633, 484, 485, 486, 487, 488, 634, 598, 599, 600, 601, 602, 603, 604, 82, 635, 636, 759, 760, 761, 762, 763, 764, 765, 786, 787, 788, 789, 794, 795, 796, 797, 780, 781, 782, 783, 784, 785, 792, 793, 790, 791, 798, 799, 800, 801, 802, 803] (by decide +kernel) (by decide +kernel)) (goodIn_sub (fun _ h => List.mem_append_left _ (List.mem_append_right _ h)) (by decide +kernel))
set_option maxRecDepth 20000 in
theorem gL_law_L_answerByLoops : GoodIn wsL_law (va_wsS RL 143 yL_answerByLoops wsL_answerByLoops) := goodIn_app (goodIn_of _ (by decide +kernel)) ggL_law_L_answerByLoops
set_option maxRecDepth 20000 in
theorem ggL_law_X8_answerByLoops : GoodIn wsL_law wsX8_answerByLoops := goodIn_r _ [712, 641, 642, 643, 5, 644, 185, 378, 645, 646, 647, 102, 101, 648, 649, 650, 651, 186, 472, 473, 474, 475, 100, 476, 477, 478, 479, 99, 98, 97, 652, 653, 654, 655, 496, 497, 498, 499, 500, 501, 502, 503, 766, 767, 768, 769, 770, 771, 772, 773, 774, 775, 776, 777, 778, 779] (by decide +kernel) (by decide +kernel)
set_option maxRecDepth 20000 in
theorem gL_law_X8_answerByLoops : GoodIn wsL_law (wsV RL 145 RX8 yX8_answerByLoops wsX8_answerByLoops) := goodIn_app (goodIn_of _ (by decide +kernel)) ggL_law_X8_answerByLoops
set_option maxRecDepth 20000 in
theorem ggL_law_X7_answers : GoodIn wsL_law wsX7_answers := goodIn_r _ [716, 31, 759, 760, 761, 762, 763, 764, 765] (by decide +kernel) (by decide +kernel)
set_option maxRecDepth 20000 in
theorem gL_law_X7_answers : GoodIn wsL_law (wsV RL 146 RX7 yX7_answers wsX7_answers) := goodIn_app (goodIn_of _ (by decide +kernel)) ggL_law_X7_answers
set_option maxRecDepth 20000 in
theorem ggL_law_X8_answers : GoodIn wsL_law wsX8_answers := goodIn_r _ [720, 185, 646, 766, 767, 768, 769, 770, 771, 772, 773, 774, 775, 776, 777, 778, 779] (by decide +kernel) (by decide +kernel)
set_option maxRecDepth 20000 in
theorem gL_law_X8_answers : GoodIn wsL_law (wsV RL 149 RX8 yX8_answers wsX8_answers) := goodIn_app (goodIn_of _ (by decide +kernel)) ggL_law_X8_answers
set_option maxRecDepth 20000 in
theorem ggL_law_L_answer : GoodIn wsL_law wsL_answer := goodIn_ca (goodIn_ca (goodIn_r _ [723, 241, 107, 724, 725, 726, 2, 727, 246, 247, 113, 114, 31, 32, 16, 30, 728, 729, 730, 607, 441, 442, 731, 132, 133, 732, 447, 448, 449, 450, 451, 265, 266, 267, 15, 268, 36, 759, 760, 761, 762, 763, 764, 765, 780, 781, 782] (by decide +kernel) (by decide +kernel)) (goodIn_sub (fun _ h => List.mem_append_right _ h) (by decide +kernel))) (goodIn_sub (fun _ h => List.mem_append_left _ (List.mem_append_left _ (List.mem_append_right _ h))) (by decide +kernel))
set_option maxRecDepth 20000 in
theorem gL_law_L_answer : GoodIn wsL_law (va_wsS RL 150 yL_answer wsL_answer) := goodIn_app (goodIn_of _ (by decide +kernel)) ggL_law_L_answer
set_option maxRecDepth 20000 in
theorem ggL_law_X8_answer : GoodIn wsL_law wsX8_answer := goodIn_r _ [736, 647, 646, 185, 97, 102, 191, 192, 5, 193, 737, 738, 739, 740, 766, 767, 768, 769, 770, 771, 772, 773, 774, 775, 776, 777, 778, 779] (by decide +kernel) (by decide +kernel)
set_option maxRecDepth 20000 in
theorem gL_law_X8_answer : GoodIn wsL_law (wsV RL 152 RX8 yX8_answer wsX8_answer) := goodIn_app (goodIn_of _ (by decide +kernel)) ggL_law_X8_answer
set_option maxRecDepth 20000 in
theorem ggL_law_L_termsFor : GoodIn wsL_law wsL_termsFor := goodIn_ca (goodIn_r _ [743, 107, 744, 745, 746, 2, 747, 113, 114, 32, 31, 30, 728, 729, 730, 607, 441, 442, 731, 132, 133, 732, 447, 448, 449, 450, 451, 748, 749, 750, 751, 752, 753, 754, 759, 760, 761, 762, 763, 764, 765] (by decide +kernel) (by decide +kernel)) (goodIn_sub (fun _ h => List.mem_append_left _ (List.mem_append_left _ (List.mem_append_right _ h))) (by decide +kernel))
set_option maxRecDepth 20000 in
theorem gL_law_L_termsFor : GoodIn wsL_law (va_wsS RL 153 yL_termsFor wsL_termsFor) := goodIn_app (goodIn_of _ (by decide +kernel)) ggL_law_L_termsFor
set_option maxRecDepth 20000 in
theorem ggL_law_X8_termsFor : GoodIn wsL_law wsX8_termsFor := goodIn_r _ [758, 185, 187, 646, 102, 191, 192, 5, 193, 737, 738, 739, 740, 766, 767, 768, 769, 770, 771, 772, 773, 774, 775, 776, 777, 778, 779] (by decide +kernel) (by decide +kernel)
set_option maxRecDepth 20000 in
theorem gL_law_X8_termsFor : GoodIn wsL_law (wsV RL 155 RX8 yX8_termsFor wsX8_termsFor) := goodIn_app (goodIn_of _ (by decide +kernel)) ggL_law_X8_termsFor
