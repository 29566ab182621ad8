set_option maxRecDepth 20000 in
theorem ggX8_areTerms_X8_isIn : GoodIn wsX8_areTerms wsX8_isIn := goodIn_r _ [4] (by decide +kernel) (by decide +kernel)
set_option maxRecDepth 20000 in
theorem gX8_areTerms_X8_isIn : GoodIn wsX8_areTerms (va_wsS RX8 35 yX8_isIn wsX8_isIn) := goodIn_app (goodIn_of _ (by decide +kernel)) ggX8_areTerms_X8_isIn
set_option maxRecDepth 20000 in
theorem ggX8_state_X8_areTerms : GoodIn wsX8_state wsX8_areTerms := goodIn_r _ [8, 9, 10, 7, 11] (by decide +kernel) (by decide +kernel)
set_option maxRecDepth 20000 in
theorem gX8_state_X8_areTerms : GoodIn wsX8_state (va_wsS RX8 45 yX8_areTerms wsX8_areTerms) := goodIn_app (goodIn_of _ (by decide +kernel)) ggX8_state_X8_areTerms
set_option maxRecDepth 20000 in
theorem ggX8_state_X8_find : GoodIn wsX8_state wsX8_find := goodIn_r _ [15, 2, 16, 4, 26, 27, 28, 29, 30, 31, 32, 33, 34, 35, 36, 37, 38, 39] (by decide +kernel) (by decide +kernel)
set_option maxRecDepth 20000 in
theorem gX8_state_X8_find : GoodIn wsX8_state (wsV RX8 49 RX8 yX8_find wsX8_find) := goodIn_app (goodIn_of _ (by decide +kernel)) ggX8_state_X8_find
set_option maxRecDepth 20000 in
theorem ggX8_state_X8_unknown : GoodIn wsX8_state wsX8_unknown := goodIn_r _ [20, 21, 26, 27, 28, 29, 30, 31, 32, 33, 34, 35, 36, 37, 38, 39] (by decide +kernel) (by decide +kernel)
set_option maxRecDepth 20000 in
theorem gX8_state_X8_unknown : GoodIn wsX8_state (wsV RX8 53 RX8 yX8_unknown wsX8_unknown) := goodIn_app (goodIn_of _ (by decide +kernel)) ggX8_state_X8_unknown
set_option maxRecDepth 20000 in
theorem ggX8_state_X8_numbered : GoodIn wsX8_state wsX8_numbered := goodIn_r _ [25, 21, 3, 16, 26, 27, 28, 29, 30, 31, 32, 33, 34, 35, 36, 37, 38, 39] (by decide +kernel) (by decide +kernel)
set_option maxRecDepth 20000 in
theorem gX8_state_X8_numbered : GoodIn wsX8_state (wsV RX8 56 RX8 yX8_numbered wsX8_numbered) := goodIn_app (goodIn_of _ (by decide +kernel)) ggX8_state_X8_numbered
set_option maxRecDepth 20000 in
theorem ggX8_takeBack_X8_areTerms : GoodIn wsX8_takeBack wsX8_areTerms := goodIn_r _ [7, 8, 9, 6, 10] (by decide +kernel) (by decide +kernel)
set_option maxRecDepth 20000 in
theorem gX8_takeBack_X8_areTerms : GoodIn wsX8_takeBack (va_wsS RX8 45 yX8_areTerms wsX8_areTerms) := goodIn_app (goodIn_of _ (by decide +kernel)) ggX8_takeBack_X8_areTerms
set_option maxRecDepth 20000 in
theorem ggX8_takeBack_X8_find : GoodIn wsX8_takeBack wsX8_find := goodIn_r _ [14, 2, 15, 3, 16, 17, 18, 19, 20, 21, 22, 23, 24, 25, 26, 27, 28, 29] (by decide +kernel) (by decide +kernel)
set_option maxRecDepth 20000 in
theorem gX8_takeBack_X8_find : GoodIn wsX8_takeBack (wsV RX8 49 RX8 yX8_find wsX8_find) := goodIn_app (goodIn_of _ (by decide +kernel)) ggX8_takeBack_X8_find
set_option maxRecDepth 20000 in
theorem ggX8_inOrder_X8_rank : GoodIn wsX8_inOrder wsX8_rank := goodIn_r _ [6, 7, 8, 9, 10, 11, 12, 13, 14, 15, 16, 17, 18, 19, 20, 21] (by decide +kernel) (by decide +kernel)
set_option maxRecDepth 20000 in
theorem gX8_inOrder_X8_rank : GoodIn wsX8_inOrder (wsV RX8 60 RX8 yX8_rank wsX8_rank) := goodIn_app (goodIn_of _ (by decide +kernel)) ggX8_inOrder_X8_rank
set_option maxRecDepth 20000 in
theorem ggX8_termAt_X8_isIn : GoodIn wsX8_termAt wsX8_isIn := goodIn_r _ [8] (by decide +kernel) (by decide +kernel)
set_option maxRecDepth 20000 in
theorem gX8_termAt_X8_isIn : GoodIn wsX8_termAt (va_wsS RX8 35 yX8_isIn wsX8_isIn) := goodIn_app (goodIn_of _ (by decide +kernel)) ggX8_termAt_X8_isIn
set_option maxRecDepth 20000 in
theorem ggX8_termAt_X8_inOrder : GoodIn wsX8_termAt wsX8_inOrder := goodIn_r _ [12, 1, 13, 14, 15, 7, 16, 4, 17, 18, 19, 20, 21, 22, 23, 24, 25, 26, 27, 28, 29, 30] (by decide +kernel) (by decide +kernel)
set_option maxRecDepth 20000 in
theorem gX8_termAt_X8_inOrder : GoodIn wsX8_termAt (wsV RX8 64 RX8 yX8_inOrder wsX8_inOrder) := goodIn_app (goodIn_of _ (by decide +kernel)) ggX8_termAt_X8_inOrder
set_option maxRecDepth 20000 in
theorem ggX8_numberOf_X8_isIn : GoodIn wsX8_numberOf wsX8_isIn := goodIn_r _ [6] (by decide +kernel) (by decide +kernel)
set_option maxRecDepth 20000 in
theorem gX8_numberOf_X8_isIn : GoodIn wsX8_numberOf (va_wsS RX8 35 yX8_isIn wsX8_isIn) := goodIn_app (goodIn_of _ (by decide +kernel)) ggX8_numberOf_X8_isIn
set_option maxRecDepth 20000 in
theorem ggX8_termOf_X8_isIn : GoodIn wsX8_termOf wsX8_isIn := goodIn_r _ [7] (by decide +kernel) (by decide +kernel)
set_option maxRecDepth 20000 in
theorem gX8_termOf_X8_isIn : GoodIn wsX8_termOf (va_wsS RX8 35 yX8_isIn wsX8_isIn) := goodIn_app (goodIn_of _ (by decide +kernel)) ggX8_termOf_X8_isIn
set_option maxRecDepth 20000 in
theorem ggX8_count_X8_areTerms : GoodIn wsX8_count wsX8_areTerms := goodIn_r _ [8, 9, 10, 7, 11] (by decide +kernel) (by decide +kernel)
set_option maxRecDepth 20000 in
theorem gX8_count_X8_areTerms : GoodIn wsX8_count (va_wsS RX8 45 yX8_areTerms wsX8_areTerms) := goodIn_app (goodIn_of _ (by decide +kernel)) ggX8_count_X8_areTerms
set_option maxRecDepth 20000 in
theorem ggX8_seek_X8_isIn : GoodIn wsX8_seek wsX8_isIn := goodIn_r _ [8] (by decide +kernel) (by decide +kernel)
set_option maxRecDepth 20000 in
theorem gX8_seek_X8_isIn : GoodIn wsX8_seek (va_wsS RX8 35 yX8_isIn wsX8_isIn) := goodIn_app (goodIn_of _ (by decide +kernel)) ggX8_seek_X8_isIn
set_option maxRecDepth 20000 in
theorem ggX8_addPattern_X8_areTerms : GoodIn wsX8_addPattern wsX8_areTerms := goodIn_r _ [7, 8, 9, 6, 10] (by decide +kernel) (by decide +kernel)
set_option maxRecDepth 20000 in
theorem gX8_addPattern_X8_areTerms : GoodIn wsX8_addPattern (va_wsS RX8 45 yX8_areTerms wsX8_areTerms) := goodIn_app (goodIn_of _ (by decide +kernel)) ggX8_addPattern_X8_areTerms
set_option maxRecDepth 20000 in
theorem ggX8_matching_X8_frees : GoodIn wsX8_matching wsX8_frees := goodIn_r _ [6, 7, 15, 16, 17, 18, 19, 20, 21, 22, 23, 24, 25, 26, 27, 28] (by decide +kernel) (by decide +kernel)
set_option maxRecDepth 20000 in
theorem gX8_matching_X8_frees : GoodIn wsX8_matching (wsV RX8 70 RX8 yX8_frees wsX8_frees) := goodIn_app (goodIn_of _ (by decide +kernel)) ggX8_matching_X8_frees
set_option maxRecDepth 20000 in
theorem ggX8_matching_X8_tries : GoodIn wsX8_matching wsX8_tries := goodIn_r _ [11, 7, 12, 13, 14, 15, 16, 17, 18, 19, 20, 21, 22, 23, 24, 25, 26, 27, 28] (by decide +kernel) (by decide +kernel)
set_option maxRecDepth 20000 in
theorem gX8_matching_X8_tries : GoodIn wsX8_matching (wsV RX8 73 RX8 yX8_tries wsX8_tries) := goodIn_app (goodIn_of _ (by decide +kernel)) ggX8_matching_X8_tries
set_option maxRecDepth 20000 in
theorem ggX8_matches_X8_isIn : GoodIn wsX8_matches wsX8_isIn := goodIn_r _ [6] (by decide +kernel) (by decide +kernel)
set_option maxRecDepth 20000 in
theorem gX8_matches_X8_isIn : GoodIn wsX8_matches (va_wsS RX8 35 yX8_isIn wsX8_isIn) := goodIn_app (goodIn_of _ (by decide +kernel)) ggX8_matches_X8_isIn
set_option maxRecDepth 20000 in
theorem ggX8_matches_X8_matching : GoodIn wsX8_matches wsX8_matching := goodIn_r _ [10, 11, 12, 13, 14, 5, 15, 16, 17, 18, 19, 20, 21, 22, 23, 24, 25, 26, 27, 28, 29, 30, 31, 32, 33, 34, 35, 36, 37] (by decide +kernel) (by decide +kernel)
set_option maxRecDepth 20000 in
theorem gX8_matches_X8_matching : GoodIn wsX8_matches (wsV RX8 76 RX8 yX8_matching wsX8_matching) := goodIn_app (goodIn_of _ (by decide +kernel)) ggX8_matches_X8_matching
set_option maxRecDepth 20000 in
theorem ggX8_allVariables_X8_variablesOf : GoodIn wsX8_allVariables wsX8_variablesOf := goodIn_r _ [6, 7, 8, 9, 10, 11, 12, 13, 14, 15, 16, 17, 18, 19, 20, 21] (by decide +kernel) (by decide +kernel)
set_option maxRecDepth 20000 in
theorem gX8_allVariables_X8_variablesOf : GoodIn wsX8_allVariables (wsV RX8 79 RX8 yX8_variablesOf wsX8_variablesOf) := goodIn_app (goodIn_of _ (by decide +kernel)) ggX8_allVariables_X8_variablesOf
set_option maxRecDepth 20000 in
theorem ggX8_variables_X8_allVariables : GoodIn wsX8_variables wsX8_allVariables := goodIn_r _ [6, 7, 8, 9, 10, 5, 11, 12, 13, 14, 15, 16, 17, 18, 19, 20, 21, 22, 23, 24, 25, 26] (by decide +kernel) (by decide +kernel)
set_option maxRecDepth 20000 in
theorem gX8_variables_X8_allVariables : GoodIn wsX8_variables (wsV RX8 82 RX8 yX8_allVariables wsX8_allVariables) := goodIn_app (goodIn_of _ (by decide +kernel)) ggX8_variables_X8_allVariables
set_option maxRecDepth 20000 in
theorem ggX8_joined_X8_isIn : GoodIn wsX8_joined wsX8_isIn := goodIn_r _ [6] (by decide +kernel) (by decide +kernel)
set_option maxRecDepth 20000 in
theorem gX8_joined_X8_isIn : GoodIn wsX8_joined (va_wsS RX8 35 yX8_isIn wsX8_isIn) := goodIn_app (goodIn_of _ (by decide +kernel)) ggX8_joined_X8_isIn
set_option maxRecDepth 20000 in
theorem ggX8_joined_X8_variablesOf : GoodIn wsX8_joined wsX8_variablesOf := goodIn_r _ [10, 11, 28, 29, 30, 31, 32, 33, 34, 35, 36, 37, 38, 39, 40, 41] (by decide +kernel) (by decide +kernel)
set_option maxRecDepth 20000 in
theorem gX8_joined_X8_variablesOf : GoodIn wsX8_joined (wsV RX8 79 RX8 yX8_variablesOf wsX8_variablesOf) := goodIn_app (goodIn_of _ (by decide +kernel)) ggX8_joined_X8_variablesOf
set_option maxRecDepth 20000 in
theorem ggX8_joined_X8_matching : GoodIn wsX8_joined wsX8_matching := goodIn_r _ [15, 16, 17, 18, 19, 5, 20, 21, 22, 23, 24, 25, 11, 26, 27, 28, 29, 30, 31, 32, 33, 34, 35, 36, 37, 38, 39, 40, 41] (by decide +kernel) (by decide +kernel)
set_option maxRecDepth 20000 in
theorem gX8_joined_X8_matching : GoodIn wsX8_joined (wsV RX8 76 RX8 yX8_matching wsX8_matching) := goodIn_app (goodIn_of _ (by decide +kernel)) ggX8_joined_X8_matching
set_option maxRecDepth 20000 in
theorem ggX8_goesThrough_X8_frees : GoodIn wsX8_goesThrough wsX8_frees := goodIn_r _ [8, 9, 22, 23, 24, 25, 26, 27, 28, 29, 30, 31, 32, 33, 34, 35] (by decide +kernel) (by decide +kernel)
set_option maxRecDepth 20000 in
theorem gX8_goesThrough_X8_frees : GoodIn wsX8_goesThrough (wsV RX8 70 RX8 yX8_frees wsX8_frees) := goodIn_app (goodIn_of _ (by decide +kernel)) ggX8_goesThrough_X8_frees
set_option maxRecDepth 20000 in
theorem ggX8_goesThrough_X8_tries : GoodIn wsX8_goesThrough wsX8_tries := goodIn_r _ [13, 9, 14, 15, 16, 22, 23, 24, 25, 26, 27, 28, 29, 30, 31, 32, 33, 34, 35] (by decide +kernel) (by decide +kernel)
set_option maxRecDepth 20000 in
theorem gX8_goesThrough_X8_tries : GoodIn wsX8_goesThrough (wsV RX8 73 RX8 yX8_tries wsX8_tries) := goodIn_app (goodIn_of _ (by decide +kernel)) ggX8_goesThrough_X8_tries
set_option maxRecDepth 20000 in
theorem ggX8_goesThrough_X8_finds : GoodIn wsX8_goesThrough wsX8_finds := goodIn_r _ [20, 9, 1, 21, 22, 23, 24, 25, 26, 27, 28, 29, 30, 31, 32, 33, 34, 35] (by decide +kernel) (by decide +kernel)
set_option maxRecDepth 20000 in
theorem gX8_goesThrough_X8_finds : GoodIn wsX8_goesThrough (wsV RX8 89 RX8 yX8_finds wsX8_finds) := goodIn_app (goodIn_of _ (by decide +kernel)) ggX8_goesThrough_X8_finds
set_option maxRecDepth 20000 in
theorem ggX8_answersAll_X8_goesThrough : GoodIn wsX8_answersAll wsX8_goesThrough := goodIn_r _ [12, 3, 13, 2, 14, 15, 16, 11, 17, 18, 19, 20, 21, 22, 23, 24, 25, 26, 27, 28, 29, 7, 38, 39, 40, 41, 42, 43, 44, 45, 46, 47, 48, 49, 50, 51] (by decide +kernel) (by decide +kernel)
set_option maxRecDepth 20000 in
theorem gX8_answersAll_X8_goesThrough : GoodIn wsX8_answersAll (wsV RX8 93 RX8 yX8_goesThrough wsX8_goesThrough) := goodIn_app (goodIn_of _ (by decide +kernel)) ggX8_answersAll_X8_goesThrough
set_option maxRecDepth 20000 in
theorem ggX8_answersAll_X8_allVariables : GoodIn wsX8_answersAll wsX8_allVariables := goodIn_r _ [33, 2, 34, 35, 36, 11, 37, 23, 38, 39, 40, 41, 42, 43, 44, 45, 46, 47, 48, 49, 50, 51] (by decide +kernel) (by decide +kernel)
set_option maxRecDepth 20000 in
theorem gX8_answersAll_X8_allVariables : GoodIn wsX8_answersAll (wsV RX8 82 RX8 yX8_allVariables wsX8_allVariables) := goodIn_app (goodIn_of _ (by decide +kernel)) ggX8_answersAll_X8_allVariables
set_option maxRecDepth 20000 in
theorem ggX8_answerByMerging_X8_answersAll : GoodIn wsX8_answerByMerging wsX8_answersAll := goodIn_r _ [5, 6, 7, 8, 9, 10, 11, 12, 13, 14, 15, 4, 16, 17, 18, 19, 20, 21, 22, 23, 24, 25, 26, 27, 28, 29, 30, 31, 32, 33, 34, 35, 36, 37, 38, 39, 40, 41, 42, 43, 44, 45, 46, 47, 48, 49, 50, 51, 52, 53, 54, 55] (by decide +kernel) (by decide +kernel)
set_option maxRecDepth 20000 in
theorem gX8_answerByMerging_X8_answersAll : GoodIn wsX8_answerByMerging (wsV RX8 102 RX8 yX8_answersAll wsX8_answersAll) := goodIn_app (goodIn_of _ (by decide +kernel)) ggX8_answerByMerging_X8_answersAll
set_option maxRecDepth 20000 in
theorem ggX8_answerByVariables_X8_answersAll : GoodIn wsX8_answerByVariables wsX8_answersAll := goodIn_r _ [5, 6, 7, 8, 9, 10, 11, 12, 13, 14, 15, 4, 16, 17, 18, 19, 20, 21, 22, 23, 24, 25, 26, 27, 28, 29, 30, 31, 32, 33, 34, 35, 36, 37, 38, 39, 40, 41, 42, 43, 44, 45, 46, 47, 48, 49, 50, 51, 52, 53, 54, 55] (by decide +kernel) (by decide +kernel)
set_option maxRecDepth 20000 in
theorem gX8_answerByVariables_X8_answersAll : GoodIn wsX8_answerByVariables (wsV RX8 102 RX8 yX8_answersAll wsX8_answersAll) := goodIn_app (goodIn_of _ (by decide +kernel)) ggX8_answerByVariables_X8_answersAll
set_option maxRecDepth 20000 in
theorem ggX8_answerByLoops_X8_answersAll : GoodIn wsX8_answerByLoops wsX8_answersAll := goodIn_r _ [5, 6, 7, 8, 9, 10, 11, 12, 13, 14, 15, 4, 16, 17, 18, 19, 20, 21, 22, 23, 24, 25, 26, 27, 28, 29, 30, 31, 32, 33, 34, 35, 36, 37, 38, 39, 40, 41, 42, 43, 44, 45, 46, 47, 48, 49, 50, 51, 52, 53, 54, 55] (by decide +kernel) (by decide +kernel)
set_option maxRecDepth 20000 in
theorem gX8_answerByLoops_X8_answersAll : GoodIn wsX8_answerByLoops (wsV RX8 102 RX8 yX8_answersAll wsX8_answersAll) := goodIn_app (goodIn_of _ (by decide +kernel)) ggX8_answerByLoops_X8_answersAll
set_option maxRecDepth 20000 in
theorem ggX8_answer_X8_isIn : GoodIn wsX8_answer wsX8_isIn := goodIn_r _ [9] (by decide +kernel) (by decide +kernel)
set_option maxRecDepth 20000 in
theorem gX8_answer_X8_isIn : GoodIn wsX8_answer (va_wsS RX8 35 yX8_isIn wsX8_isIn) := goodIn_app (goodIn_of _ (by decide +kernel)) ggX8_answer_X8_isIn
set_option maxRecDepth 20000 in
theorem ggX8_answer_X8_bindingOf : GoodIn wsX8_answer wsX8_bindingOf := goodIn_r _ [13] (by decide +kernel) (by decide +kernel)
set_option maxRecDepth 20000 in
theorem gX8_answer_X8_bindingOf : GoodIn wsX8_answer (wsV RX8 105 RX8 yX8_bindingOf wsX8_bindingOf) := goodIn_app (goodIn_of _ (by decide +kernel)) ggX8_answer_X8_bindingOf
set_option maxRecDepth 20000 in
theorem ggX8_termsFor_X8_isIn : GoodIn wsX8_termsFor wsX8_isIn := goodIn_r _ [8] (by decide +kernel) (by decide +kernel)
set_option maxRecDepth 20000 in
theorem gX8_termsFor_X8_isIn : GoodIn wsX8_termsFor (va_wsS RX8 35 yX8_isIn wsX8_isIn) := goodIn_app (goodIn_of _ (by decide +kernel)) ggX8_termsFor_X8_isIn
set_option maxRecDepth 20000 in
theorem ggX8_termsFor_X8_bindingOf : GoodIn wsX8_termsFor wsX8_bindingOf := goodIn_r _ [12] (by decide +kernel) (by decide +kernel)
set_option maxRecDepth 20000 in
theorem gX8_termsFor_X8_bindingOf : GoodIn wsX8_termsFor (wsV RX8 105 RX8 yX8_bindingOf wsX8_bindingOf) := goodIn_app (goodIn_of _ (by decide +kernel)) ggX8_termsFor_X8_bindingOf
