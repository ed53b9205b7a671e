-- printed rows that the walks use
set_option maxRecDepth 20000 in
theorem ggL_law_X12_thrown : GoodIn wsL_law wsX12_thrown := zgr _ [(7, 9), (5, 7), (55, 0), (55, 1), (55, 2), (55, 3), (55, 4), (55, 5), (55, 6), (55, 7), (55, 8), (55, 9), (55, 10), (55, 11)] (by decide +kernel) (by decide +kernel)
set_option maxRecDepth 20000 in
theorem gL_law_X12_thrown : GoodIn wsL_law (wsV RL 130 RX12 yX12_thrown wsX12_thrown) := goodIn_app (zgr _ [(7, 6), (7, 7), (7, 8), (0, 5)] (by decide +kernel) (by decide +kernel)) ggL_law_X12_thrown
set_option maxRecDepth 20000 in
theorem ggL_law_X12_total : GoodIn wsL_law wsX12_total := zgr _ [(35, 17), (35, 18), (32, 2), (32, 3), (32, 4), (0, 5), (32, 5), (27, 14), (5, 7), (6, 23), (7, 0), (7, 1), (7, 2), (7, 3), (7, 4), (7, 5), (35, 19), (35, 20), (35, 21), (35, 22), (5, 2), (27, 15), (33, 3), (33, 4), (33, 5), (5, 1), (33, 6), (28, 22), (30, 10), (30, 11), (30, 12), (30, 13), (30, 14), (30, 15), (30, 16), (30, 17), (30, 18), (30, 19), (30, 20), (30, 21), (30, 22), (30, 23), (31, 0), (31, 1), (5, 12), (55, 0), (55, 1), (55, 2), (55, 3), (55, 4), (55, 5), (55, 6), (55, 7), (55, 8), (55, 9), (55, 10), (55, 11), (65, 0), (65, 1), (65, 2)] (by decide +kernel) (by decide +kernel)
set_option maxRecDepth 20000 in
theorem gL_law_X12_total : GoodIn wsL_law (wsV RL 194 RX12 yX12_total wsX12_total) := goodIn_app (zgr _ [(35, 14), (35, 15), (35, 16), (0, 5)] (by decide +kernel) (by decide +kernel)) ggL_law_X12_total
set_option maxRecDepth 20000 in
theorem ggL_law_X12_untaxed : GoodIn wsL_law wsX12_untaxed := zgr _ [(50, 10), (15, 0), (9, 11), (47, 0), (10, 19), (6, 23), (7, 0), (0, 5), (7, 1), (7, 2), (7, 3), (7, 4), (7, 5), (5, 7), (50, 11), (50, 12), (50, 13), (50, 14), (47, 23), (49, 5), (49, 6), (49, 7), (49, 8), (47, 22), (5, 5), (28, 6), (26, 20), (8, 12), (26, 21), (49, 9), (18, 17), (18, 18), (5, 6), (55, 0), (55, 1), (55, 2), (55, 3), (55, 4), (55, 5), (55, 6), (55, 7), (55, 8), (55, 9), (55, 10), (55, 11)] (by decide +kernel) (by decide +kernel)
set_option maxRecDepth 20000 in
theorem gL_law_X12_untaxed : GoodIn wsL_law (wsV RL 251 RX12 yX12_untaxed wsX12_untaxed) := goodIn_app (zgr _ [(50, 7), (50, 8), (50, 9), (0, 5)] (by decide +kernel) (by decide +kernel)) ggL_law_X12_untaxed
set_option maxRecDepth 20000 in
theorem ggL_law_X12_weigh : GoodIn wsL_law wsX12_weigh := zgr _ [(45, 6), (15, 21), (45, 7), (5, 4), (6, 23), (7, 0), (0, 5), (7, 1), (7, 2), (7, 3), (7, 4), (7, 5), (5, 7), (55, 0), (55, 1), (55, 2), (55, 3), (55, 4), (55, 5), (55, 6), (55, 7), (55, 8), (55, 9), (55, 10), (55, 11)] (by decide +kernel) (by decide +kernel)
set_option maxRecDepth 20000 in
theorem gL_law_X12_weigh : GoodIn wsL_law (wsV RL 229 RX12 yX12_weigh wsX12_weigh) := goodIn_app (zgr _ [(45, 3), (45, 4), (45, 5), (0, 5)] (by decide +kernel) (by decide +kernel)) ggL_law_X12_weigh
set_option maxRecDepth 20000 in
theorem ggL_law_X12_worth : GoodIn wsL_law wsX12_worth := zgr _ [(22, 10), (14, 19), (22, 11), (6, 23), (7, 0), (0, 5), (7, 1), (22, 12), (22, 13), (22, 14), (22, 15), (22, 16), (22, 17), (22, 18), (22, 19), (22, 20), (4, 22), (9, 14), (9, 15), (9, 16), (9, 17), (3, 10), (9, 18), (9, 19), (8, 11), (8, 12), (8, 13), (9, 20), (9, 21), (9, 22), (9, 23), (10, 0), (10, 1), (0, 12), (0, 13), (10, 2), (10, 3), (10, 7), (10, 8), (10, 9), (10, 10), (10, 11), (10, 12), (10, 13), (10, 14), (12, 22), (12, 23), (13, 0), (13, 1), (13, 2), (13, 3), (13, 4), (11, 22), (11, 23), (12, 0), (11, 18), (11, 19), (11, 20), (11, 21), (10, 4), (10, 5), (10, 6), (10, 15), (10, 16), (10, 17), (10, 18), (4, 21), (10, 19), (10, 20), (10, 21), (10, 22), (10, 23), (11, 0), (11, 1), (11, 2), (11, 3), (11, 4), (11, 5), (11, 6), (11, 7), (11, 8), (11, 9), (11, 10), (11, 11), (11, 12), (11, 13), (11, 14), (11, 15), (11, 16), (11, 17), (12, 1), (12, 2), (12, 3), (12, 4), (12, 5), (12, 6), (12, 7), (12, 8), (12, 9), (12, 10), (12, 11), (12, 12), (12, 13), (12, 14), (12, 15), (12, 16), (12, 17), (12, 18), (12, 19), (12, 20), (12, 21), (13, 5), (13, 6), (13, 7), (13, 8), (13, 9), (13, 10), (7, 2), (7, 3), (7, 4), (7, 5), (5, 7), (13, 11), (13, 12), (13, 13), (13, 14), (13, 15), (13, 16), (13, 17), (13, 18), (55, 0), (55, 1), (55, 2), (55, 3), (55, 4), (55, 5), (55, 6), (55, 7), (55, 8), (55, 9), (55, 10), (55, 11), (66, 0), (66, 1)] (by decide +kernel) (by decide +kernel)
set_option maxRecDepth 20000 in
theorem gL_law_X12_worth : GoodIn wsL_law (wsV RL 161 RX12 yX12_worth wsX12_worth) := goodIn_app (zgr _ [(22, 7), (22, 8), (22, 9), (0, 5)] (by decide +kernel) (by decide +kernel)) ggL_law_X12_worth
set_option maxRecDepth 20000 in
theorem ggL_law_X9_changes : GoodIn wsL_law wsX9_changes := zgr _ [(23, 16), (0, 21), (23, 17), (23, 18), (23, 19), (0, 20), (23, 20), (2, 2), (54, 0), (54, 1), (54, 2), (54, 3), (54, 4), (54, 5), (54, 6), (54, 7), (57, 0), (57, 1), (57, 2)] (by decide +kernel) (by decide +kernel)
set_option maxRecDepth 20000 in
theorem gL_law_X9_changes : GoodIn wsL_law (wsV RL 165 RX9 yX9_changes wsX9_changes) := goodIn_app (zgr _ [(23, 13), (23, 14), (23, 15), (0, 2)] (by decide +kernel) (by decide +kernel)) ggL_law_X9_changes
set_option maxRecDepth 20000 in
theorem ggL_law_X9_clearLives : GoodIn wsL_law wsX9_clearLives := zgr _ [(39, 22), (1, 5), (39, 23), (40, 0), (40, 1), (1, 4), (40, 2), (3, 15), (54, 0), (54, 1), (54, 2), (54, 3), (54, 4), (54, 5), (54, 6), (54, 7), (59, 0), (59, 1), (59, 2), (59, 3)] (by decide +kernel) (by decide +kernel)
set_option maxRecDepth 20000 in
theorem gL_law_X9_clearLives : GoodIn wsL_law (wsV RL 209 RX9 yX9_clearLives wsX9_clearLives) := goodIn_app (zgr _ [(39, 19), (39, 20), (39, 21), (0, 2)] (by decide +kernel) (by decide +kernel)) ggL_law_X9_clearLives
set_option maxRecDepth 20000 in
theorem ggL_law_X9_clearRow : GoodIn wsL_law wsX9_clearRow := zgr _ [(16, 5), (0, 21), (15, 11), (15, 12), (15, 13), (0, 20), (15, 14), (2, 2), (16, 6), (16, 7), (16, 8), (16, 9), (16, 10), (16, 11), (16, 12), (16, 13), (54, 0), (54, 1), (54, 2), (54, 3), (54, 4), (54, 5), (54, 6), (54, 7), (57, 0), (57, 1), (57, 2)] (by decide +kernel) (by decide +kernel)
set_option maxRecDepth 20000 in
theorem gL_law_X9_clearRow : GoodIn wsL_law (wsV RL 151 RX9 yX9_clearRow wsX9_clearRow) := goodIn_app (zgr _ [(16, 2), (16, 3), (16, 4), (0, 2)] (by decide +kernel) (by decide +kernel)) ggL_law_X9_clearRow
set_option maxRecDepth 20000 in
theorem ggL_law_X9_clearSteps : GoodIn wsL_law wsX9_clearSteps := zgr _ [(48, 3), (1, 13), (48, 4), (48, 5), (48, 6), (1, 12), (48, 7), (4, 2), (54, 0), (54, 1), (54, 2), (54, 3), (54, 4), (54, 5), (54, 6), (54, 7), (61, 0), (61, 1), (61, 2)] (by decide +kernel) (by decide +kernel)
set_option maxRecDepth 20000 in
theorem gL_law_X9_clearSteps : GoodIn wsL_law (wsV RL 241 RX9 yX9_clearSteps wsX9_clearSteps) := goodIn_app (zgr _ [(48, 0), (48, 1), (48, 2), (0, 2)] (by decide +kernel) (by decide +kernel)) ggL_law_X9_clearSteps
set_option maxRecDepth 20000 in
theorem ggL_law_X9_clearWeights : GoodIn wsL_law wsX9_clearWeights := zgr _ [(45, 11), (1, 9), (45, 12), (45, 13), (45, 14), (1, 8), (45, 15), (3, 20), (54, 0), (54, 1), (54, 2), (54, 3), (54, 4), (54, 5), (54, 6), (54, 7), (60, 0), (60, 1)] (by decide +kernel) (by decide +kernel)
set_option maxRecDepth 20000 in
theorem gL_law_X9_clearWeights : GoodIn wsL_law (wsV RL 230 RX9 yX9_clearWeights wsX9_clearWeights) := goodIn_app (zgr _ [(45, 8), (45, 9), (45, 10), (0, 2)] (by decide +kernel) (by decide +kernel)) ggL_law_X9_clearWeights
set_option maxRecDepth 20000 in
theorem ggL_law_X9_interestShare : GoodIn wsL_law wsX9_interestShare := zgr _ [(53, 17), (1, 17), (35, 10), (35, 11), (35, 12), (1, 16), (35, 13), (4, 16), (4, 11), (54, 0), (54, 1), (54, 2), (54, 3), (54, 4), (54, 5), (54, 6), (54, 7), (62, 0), (62, 1), (62, 2), (62, 3), (62, 4), (62, 5), (62, 6), (62, 7)] (by decide +kernel) (by decide +kernel)
set_option maxRecDepth 20000 in
theorem gL_law_X9_interestShare : GoodIn wsL_law (wsV RL 260 RX9 yX9_interestShare wsX9_interestShare) := goodIn_app (zgr _ [(53, 14), (53, 15), (53, 16), (0, 2)] (by decide +kernel) (by decide +kernel)) ggL_law_X9_interestShare
set_option maxRecDepth 20000 in
theorem ggL_law_X9_meanAmount : GoodIn wsL_law wsX9_meanAmount := zgr _ [(53, 5), (0, 21), (15, 11), (15, 12), (15, 13), (0, 20), (15, 14), (2, 2), (53, 6), (53, 7), (53, 8), (53, 9), (54, 0), (54, 1), (54, 2), (54, 3), (54, 4), (54, 5), (54, 6), (54, 7), (57, 0), (57, 1), (57, 2)] (by decide +kernel) (by decide +kernel)
set_option maxRecDepth 20000 in
theorem gL_law_X9_meanAmount : GoodIn wsL_law (wsV RL 255 RX9 yX9_meanAmount wsX9_meanAmount) := goodIn_app (zgr _ [(53, 2), (53, 3), (53, 4), (0, 2)] (by decide +kernel) (by decide +kernel)) ggL_law_X9_meanAmount
set_option maxRecDepth 20000 in
theorem ggL_law_X9_mode : GoodIn wsL_law wsX9_mode := zgr _ [(7, 13), (0, 17), (6, 9), (54, 0), (54, 1), (54, 2), (54, 3), (54, 4), (54, 5), (54, 6), (54, 7), (56, 0)] (by decide +kernel) (by decide +kernel)
set_option maxRecDepth 20000 in
theorem gL_law_X9_mode : GoodIn wsL_law (wsV RL 133 RX9 yX9_mode wsX9_mode) := goodIn_app (zgr _ [(7, 10), (7, 11), (7, 12), (0, 2)] (by decide +kernel) (by decide +kernel)) ggL_law_X9_mode
