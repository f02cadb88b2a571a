set_option maxRecDepth 20000 in
theorem ggX12_nextToken_X12_signAt_c0 : GoodIn wsX12_nextToken ((wsX12_signAt).take 40) := goodIn_r _ [14, 2, 3, 15, 16, 17, 18, 19, 20, 21, 22, 23, 24, 25, 26, 27, 28, 29, 30, 31, 32, 33, 34, 35, 36, 37, 38, 39, 40, 41, 42, 43, 44, 45, 46, 47, 48, 49, 50, 51] (by decide +kernel) (by decide +kernel)
set_option maxRecDepth 20000 in
theorem ggX12_nextToken_X12_signAt_c1 : GoodIn wsX12_nextToken ((wsX12_signAt).drop 40) := goodIn_r _ [52, 53, 54, 55, 56, 57, 58, 59, 60, 61, 62, 63, 64, 65, 66, 67, 68, 69, 70, 71] (by decide +kernel) (by decide +kernel)
set_option maxRecDepth 20000 in
theorem ggX12_nextToken_X12_signAt : GoodIn wsX12_nextToken wsX12_signAt := (zgi (wsX12_signAt) 40 ggX12_nextToken_X12_signAt_c0 ggX12_nextToken_X12_signAt_c1)
set_option maxRecDepth 20000 in
theorem gX12_nextToken_X12_signAt : GoodIn wsX12_nextToken (wsV RX12 157 RX12 yX12_signAt wsX12_signAt) := goodIn_app (goodIn_of _ (by decide +kernel)) ggX12_nextToken_X12_signAt
set_option maxRecDepth 20000 in
theorem ggX12_reads_X12_fact_c0 : GoodIn wsX12_reads ((wsX12_fact).take 40) := goodIn_r _ [12, 3, 13, 14, 15, 16, 17, 51, 52, 53, 54, 55, 56, 57, 58, 59, 60, 61, 62, 63, 64, 65, 66, 67, 68, 69, 70, 71, 72, 73, 74, 75, 76, 77, 78, 79, 80, 81, 82, 83] (by decide +kernel) (by decide +kernel)
set_option maxRecDepth 20000 in
theorem ggX12_reads_X12_fact_c1 : GoodIn wsX12_reads ((wsX12_fact).drop 40) := goodIn_r _ [84, 85, 86, 87, 88, 89, 90, 91, 92, 93, 94, 95, 96, 97, 98, 99, 100, 101, 102, 103, 104, 105, 106, 107] (by decide +kernel) (by decide +kernel)
set_option maxRecDepth 20000 in
theorem ggX12_reads_X12_fact : GoodIn wsX12_reads wsX12_fact := (zgi (wsX12_fact) 40 ggX12_reads_X12_fact_c0 ggX12_reads_X12_fact_c1)
set_option maxRecDepth 20000 in
theorem gX12_reads_X12_fact : GoodIn wsX12_reads (wsV RX12 179 RX12 yX12_fact wsX12_fact) := goodIn_app (goodIn_of _ (by decide +kernel)) ggX12_reads_X12_fact
set_option maxRecDepth 20000 in
theorem ggX12_reads_X12_isWord_c0 : GoodIn wsX12_reads ((wsX12_isWord).take 40) := goodIn_r _ [21, 3, 13, 51, 52, 53, 54, 55, 56, 57, 58, 59, 60, 61, 62, 63, 64, 65, 66, 67, 68, 69, 70, 71, 72, 73, 74, 75, 76, 77, 78, 79, 80, 81, 82, 83, 84, 85, 86, 87] (by decide +kernel) (by decide +kernel)
set_option maxRecDepth 20000 in
theorem ggX12_reads_X12_isWord_c1 : GoodIn wsX12_reads ((wsX12_isWord).drop 40) := goodIn_r _ [88, 89, 90, 91, 92, 93, 94, 95, 96, 97, 98, 99, 100, 101, 102, 103, 104, 105, 106, 107] (by decide +kernel) (by decide +kernel)
set_option maxRecDepth 20000 in
theorem ggX12_reads_X12_isWord : GoodIn wsX12_reads wsX12_isWord := (zgi (wsX12_isWord) 40 ggX12_reads_X12_isWord_c0 ggX12_reads_X12_isWord_c1)
set_option maxRecDepth 20000 in
theorem gX12_reads_X12_isWord : GoodIn wsX12_reads (wsV RX12 185 RX12 yX12_isWord wsX12_isWord) := goodIn_app (goodIn_of _ (by decide +kernel)) ggX12_reads_X12_isWord
set_option maxRecDepth 20000 in
theorem ggX12_reads_X12_isSign_c0 : GoodIn wsX12_reads ((wsX12_isSign).take 40) := goodIn_r _ [25, 3, 26, 27, 51, 52, 53, 54, 55, 56, 57, 58, 59, 60, 61, 62, 63, 64, 65, 66, 67, 68, 69, 70, 71, 72, 73, 74, 75, 76, 77, 78, 79, 80, 81, 82, 83, 84, 85, 86] (by decide +kernel) (by decide +kernel)
set_option maxRecDepth 20000 in
theorem ggX12_reads_X12_isSign_c1 : GoodIn wsX12_reads ((wsX12_isSign).drop 40) := goodIn_r _ [87, 88, 89, 90, 91, 92, 93, 94, 95, 96, 97, 98, 99, 100, 101, 102, 103, 104, 105, 106, 107] (by decide +kernel) (by decide +kernel)
set_option maxRecDepth 20000 in
theorem ggX12_reads_X12_isSign : GoodIn wsX12_reads wsX12_isSign := (zgi (wsX12_isSign) 40 ggX12_reads_X12_isSign_c0 ggX12_reads_X12_isSign_c1)
set_option maxRecDepth 20000 in
theorem gX12_reads_X12_isSign : GoodIn wsX12_reads (wsV RX12 189 RX12 yX12_isSign wsX12_isSign) := goodIn_app (goodIn_of _ (by decide +kernel)) ggX12_reads_X12_isSign
set_option maxRecDepth 20000 in
theorem ggX12_reads_X12_fails_c0 : GoodIn wsX12_reads ((wsX12_fails).take 40) := goodIn_r _ [31, 27, 32, 51, 52, 53, 54, 55, 56, 57, 58, 59, 60, 61, 62, 63, 64, 65, 66, 67, 68, 69, 70, 71, 72, 73, 74, 75, 76, 77, 78, 79, 80, 81, 82, 83, 84, 85, 86, 87] (by decide +kernel) (by decide +kernel)
set_option maxRecDepth 20000 in
theorem ggX12_reads_X12_fails_c1 : GoodIn wsX12_reads ((wsX12_fails).drop 40) := goodIn_r _ [88, 89, 90, 91, 92, 93, 94, 95, 96, 97, 98, 99, 100, 101, 102, 103, 104, 105, 106, 107] (by decide +kernel) (by decide +kernel)
set_option maxRecDepth 20000 in
theorem ggX12_reads_X12_fails : GoodIn wsX12_reads wsX12_fails := (zgi (wsX12_fails) 40 ggX12_reads_X12_fails_c0 ggX12_reads_X12_fails_c1)
set_option maxRecDepth 20000 in
theorem gX12_reads_X12_fails : GoodIn wsX12_reads (wsV RX12 193 RX12 yX12_fails wsX12_fails) := goodIn_app (goodIn_of _ (by decide +kernel)) ggX12_reads_X12_fails
set_option maxRecDepth 20000 in
theorem ggX12_reads_X12_puts_c0 : GoodIn wsX12_reads ((wsX12_puts).take 40) := goodIn_r _ [36, 37, 38, 51, 52, 53, 54, 55, 56, 57, 58, 59, 60, 61, 62, 63, 64, 65, 66, 67, 68, 69, 70, 71, 72, 73, 74, 75, 76, 77, 78, 79, 80, 81, 82, 83, 84, 85, 86, 87] (by decide +kernel) (by decide +kernel)
set_option maxRecDepth 20000 in
theorem ggX12_reads_X12_puts_c1 : GoodIn wsX12_reads ((wsX12_puts).drop 40) := goodIn_r _ [88, 89, 90, 91, 92, 93, 94, 95, 96, 97, 98, 99, 100, 101, 102, 103, 104, 105, 106, 107] (by decide +kernel) (by decide +kernel)
set_option maxRecDepth 20000 in
theorem ggX12_reads_X12_puts : GoodIn wsX12_reads wsX12_puts := (zgi (wsX12_puts) 40 ggX12_reads_X12_puts_c0 ggX12_reads_X12_puts_c1)
set_option maxRecDepth 20000 in
theorem gX12_reads_X12_puts : GoodIn wsX12_reads (wsV RX12 196 RX12 yX12_puts wsX12_puts) := goodIn_app (goodIn_of _ (by decide +kernel)) ggX12_reads_X12_puts
set_option maxRecDepth 20000 in
theorem ggX12_reads_X12_nextToken_c0 : GoodIn wsX12_reads ((wsX12_nextToken).take 40) := goodIn_r _ [42, 43, 44, 26, 27, 13, 5, 3, 45, 46, 47, 48, 49, 11, 50, 51, 52, 53, 54, 55, 56, 57, 58, 59, 60, 61, 62, 63, 64, 65, 66, 67, 68, 69, 70, 71, 72, 73, 74, 75] (by decide +kernel) (by decide +kernel)
set_option maxRecDepth 20000 in
theorem ggX12_reads_X12_nextToken_c1 : GoodIn wsX12_reads ((wsX12_nextToken).drop 40) := goodIn_r _ [76, 77, 78, 79, 80, 81, 82, 83, 84, 85, 86, 87, 88, 89, 90, 91, 92, 93, 94, 95, 96, 97, 98, 99, 100, 101, 102, 103, 104, 105, 106, 107] (by decide +kernel) (by decide +kernel)
set_option maxRecDepth 20000 in
theorem ggX12_reads_X12_nextToken : GoodIn wsX12_reads wsX12_nextToken := (zgi (wsX12_nextToken) 40 ggX12_reads_X12_nextToken_c0 ggX12_reads_X12_nextToken_c1)
set_option maxRecDepth 20000 in
theorem gX12_reads_X12_nextToken : GoodIn wsX12_reads (wsV RX12 200 RX12 yX12_nextToken wsX12_nextToken) := goodIn_app (goodIn_of _ (by decide +kernel)) ggX12_reads_X12_nextToken
set_option maxRecDepth 20000 in
theorem ggX12_tests_X12_sums_c0 : GoodIn wsX12_tests ((wsX12_sums).take 40) := goodIn_r _ [11, 1, 6, 12, 13, 14, 15, 16, 17, 18, 19, 20, 21, 22, 23, 24, 25, 26, 27, 28, 29, 30, 31, 32, 33, 34, 35, 36, 37, 38, 39, 40, 41, 42, 43, 44, 45, 46, 47, 48] (by decide +kernel) (by decide +kernel)
set_option maxRecDepth 20000 in
theorem ggX12_tests_X12_sums_c1 : GoodIn wsX12_tests ((wsX12_sums).drop 40) := goodIn_r _ [49, 50, 51, 52, 53, 54, 55, 56, 57, 58, 59, 60, 61, 62, 63, 64, 65, 66, 67, 68, 69, 70] (by decide +kernel) (by decide +kernel)
set_option maxRecDepth 20000 in
theorem ggX12_tests_X12_sums : GoodIn wsX12_tests wsX12_sums := (zgi (wsX12_sums) 40 ggX12_tests_X12_sums_c0 ggX12_tests_X12_sums_c1)
set_option maxRecDepth 20000 in
theorem gX12_tests_X12_sums : GoodIn wsX12_tests (wsV RX12 207 RX12 yX12_sums wsX12_sums) := goodIn_app (goodIn_of _ (by decide +kernel)) ggX12_tests_X12_sums
set_option maxRecDepth 20000 in
theorem ggX12_worked_X12_opens_c0 : GoodIn wsX12_worked ((wsX12_opens).take 40) := goodIn_r _ [18, 10, 9, 8, 5, 6, 27, 28, 29, 30, 31, 32, 33, 34, 35, 36, 37, 38, 39, 40, 41, 42, 43, 44, 45, 46, 47, 48, 49, 50, 51, 52, 53, 54, 55, 56, 57, 58, 59, 60] (by decide +kernel) (by decide +kernel)
set_option maxRecDepth 20000 in
theorem ggX12_worked_X12_opens_c1 : GoodIn wsX12_worked ((wsX12_opens).drop 40) := goodIn_r _ [61, 62, 63, 64, 65, 66, 67, 68, 69, 70, 71, 72, 73, 74, 75, 76, 77, 78, 79, 80, 81, 82, 83] (by decide +kernel) (by decide +kernel)
set_option maxRecDepth 20000 in
theorem ggX12_worked_X12_opens : GoodIn wsX12_worked wsX12_opens := (zgi (wsX12_opens) 40 ggX12_worked_X12_opens_c0 ggX12_worked_X12_opens_c1)
set_option maxRecDepth 20000 in
theorem gX12_worked_X12_opens : GoodIn wsX12_worked (wsV RX12 210 RX12 yX12_opens wsX12_opens) := goodIn_app (goodIn_of _ (by decide +kernel)) ggX12_worked_X12_opens
set_option maxRecDepth 20000 in
theorem ggX12_worked_X12_sums_c0 : GoodIn wsX12_worked ((wsX12_sums).take 40) := goodIn_r _ [22, 8, 5, 13, 6, 27, 28, 29, 30, 31, 32, 33, 34, 35, 36, 37, 38, 39, 40, 41, 42, 43, 44, 45, 46, 47, 48, 49, 50, 51, 52, 53, 54, 55, 56, 57, 58, 59, 60, 61] (by decide +kernel) (by decide +kernel)
set_option maxRecDepth 20000 in
theorem ggX12_worked_X12_sums_c1 : GoodIn wsX12_worked ((wsX12_sums).drop 40) := goodIn_r _ [62, 63, 64, 65, 66, 67, 68, 69, 70, 71, 72, 73, 74, 75, 76, 77, 78, 79, 80, 81, 82, 83] (by decide +kernel) (by decide +kernel)
set_option maxRecDepth 20000 in
theorem ggX12_worked_X12_sums : GoodIn wsX12_worked wsX12_sums := (zgi (wsX12_sums) 40 ggX12_worked_X12_sums_c0 ggX12_worked_X12_sums_c1)
set_option maxRecDepth 20000 in
theorem gX12_worked_X12_sums : GoodIn wsX12_worked (wsV RX12 207 RX12 yX12_sums wsX12_sums) := goodIn_app (goodIn_of _ (by decide +kernel)) ggX12_worked_X12_sums
set_option maxRecDepth 20000 in
theorem ggX12_worked_X12_tests_c0 : GoodIn wsX12_worked ((wsX12_tests).take 40) := goodIn_r _ [26, 8, 9, 7, 10, 12, 5, 19, 20, 21, 17, 22, 13, 6, 27, 28, 29, 30, 31, 32, 33, 34, 35, 36, 37, 38, 39, 40, 41, 42, 43, 44, 45, 46, 47, 48, 49, 50, 51, 52] (by decide +kernel) (by decide +kernel)
set_option maxRecDepth 20000 in
theorem ggX12_worked_X12_tests_c1 : GoodIn wsX12_worked ((wsX12_tests).drop 40) := goodIn_r _ [53, 54, 55, 56, 57, 58, 59, 60, 61, 62, 63, 64, 65, 66, 67, 68, 69, 70, 71, 72, 73, 74, 75, 76, 77, 78, 79, 80, 81, 82, 83] (by decide +kernel) (by decide +kernel)
set_option maxRecDepth 20000 in
theorem ggX12_worked_X12_tests : GoodIn wsX12_worked wsX12_tests := (zgi (wsX12_tests) 40 ggX12_worked_X12_tests_c0 ggX12_worked_X12_tests_c1)
set_option maxRecDepth 20000 in
theorem gX12_worked_X12_tests : GoodIn wsX12_worked (wsV RX12 213 RX12 yX12_tests wsX12_tests) := goodIn_app (goodIn_of _ (by decide +kernel)) ggX12_worked_X12_tests
set_option maxRecDepth 20000 in
theorem ggX12_needsNumber_X12_fails_c0 : GoodIn wsX12_needsNumber ((wsX12_fails).take 40) := goodIn_r _ [8, 9, 10, 28, 29, 30, 31, 32, 33, 34, 35, 36, 37, 38, 39, 40, 41, 42, 43, 44, 45, 46, 47, 48, 49, 50, 51, 52, 53, 54, 55, 56, 57, 58, 59, 60, 61, 62, 63, 64] (by decide +kernel) (by decide +kernel)
set_option maxRecDepth 20000 in
theorem ggX12_needsNumber_X12_fails_c1 : GoodIn wsX12_needsNumber ((wsX12_fails).drop 40) := goodIn_r _ [65, 66, 67, 68, 69, 70, 71, 72, 73, 74, 75, 76, 77, 78, 79, 80, 81, 82, 83, 84] (by decide +kernel) (by decide +kernel)
set_option maxRecDepth 20000 in
theorem ggX12_needsNumber_X12_fails : GoodIn wsX12_needsNumber wsX12_fails := (zgi (wsX12_fails) 40 ggX12_needsNumber_X12_fails_c0 ggX12_needsNumber_X12_fails_c1)
set_option maxRecDepth 20000 in
theorem gX12_needsNumber_X12_fails : GoodIn wsX12_needsNumber (wsV RX12 193 RX12 yX12_fails wsX12_fails) := goodIn_app (goodIn_of _ (by decide +kernel)) ggX12_needsNumber_X12_fails
set_option maxRecDepth 20000 in
theorem ggX12_needsNumber_X12_within : GoodIn wsX12_needsNumber wsX12_within := goodIn_r _ [13] (by decide +kernel) (by decide +kernel)
set_option maxRecDepth 20000 in
theorem gX12_needsNumber_X12_within : GoodIn wsX12_needsNumber (va_wsS RX12 252 yX12_within wsX12_within) := goodIn_app (goodIn_of _ (by decide +kernel)) ggX12_needsNumber_X12_within
set_option maxRecDepth 20000 in
theorem ggX12_needsNumber_X12_nextToken_c0 : GoodIn wsX12_needsNumber ((wsX12_nextToken).take 40) := goodIn_r _ [17, 18, 19, 20, 9, 21, 2, 1, 22, 23, 24, 25, 26, 7, 27, 28, 29, 30, 31, 32, 33, 34, 35, 36, 37, 38, 39, 40, 41, 42, 43, 44, 45, 46, 47, 48, 49, 50, 51, 52] (by decide +kernel) (by decide +kernel)
set_option maxRecDepth 20000 in
theorem ggX12_needsNumber_X12_nextToken_c1 : GoodIn wsX12_needsNumber ((wsX12_nextToken).drop 40) := goodIn_r _ [53, 54, 55, 56, 57, 58, 59, 60, 61, 62, 63, 64, 65, 66, 67, 68, 69, 70, 71, 72, 73, 74, 75, 76, 77, 78, 79, 80, 81, 82, 83, 84] (by decide +kernel) (by decide +kernel)
set_option maxRecDepth 20000 in
theorem ggX12_needsNumber_X12_nextToken : GoodIn wsX12_needsNumber wsX12_nextToken := (zgi (wsX12_nextToken) 40 ggX12_needsNumber_X12_nextToken_c0 ggX12_needsNumber_X12_nextToken_c1)
set_option maxRecDepth 20000 in
theorem gX12_needsNumber_X12_nextToken : GoodIn wsX12_needsNumber (wsV RX12 200 RX12 yX12_nextToken wsX12_nextToken) := goodIn_app (goodIn_of _ (by decide +kernel)) ggX12_needsNumber_X12_nextToken
set_option maxRecDepth 20000 in
theorem ggX12_needsWord_X12_isWord_c0 : GoodIn wsX12_needsWord ((wsX12_isWord).take 40) := goodIn_r _ [5, 6, 7, 28, 29, 30, 31, 32, 33, 34, 35, 36, 37, 38, 39, 40, 41, 42, 43, 44, 45, 46, 47, 48, 49, 50, 51, 52, 53, 54, 55, 56, 57, 58, 59, 60, 61, 62, 63, 64] (by decide +kernel) (by decide +kernel)
set_option maxRecDepth 20000 in
theorem ggX12_needsWord_X12_isWord_c1 : GoodIn wsX12_needsWord ((wsX12_isWord).drop 40) := goodIn_r _ [65, 66, 67, 68, 69, 70, 71, 72, 73, 74, 75, 76, 77, 78, 79, 80, 81, 82, 83, 84] (by decide +kernel) (by decide +kernel)
set_option maxRecDepth 20000 in
theorem ggX12_needsWord_X12_isWord : GoodIn wsX12_needsWord wsX12_isWord := (zgi (wsX12_isWord) 40 ggX12_needsWord_X12_isWord_c0 ggX12_needsWord_X12_isWord_c1)
set_option maxRecDepth 20000 in
theorem gX12_needsWord_X12_isWord : GoodIn wsX12_needsWord (wsV RX12 185 RX12 yX12_isWord wsX12_isWord) := goodIn_app (goodIn_of _ (by decide +kernel)) ggX12_needsWord_X12_isWord
set_option maxRecDepth 20000 in
theorem ggX12_needsWord_X12_fails_c0 : GoodIn wsX12_needsWord ((wsX12_fails).take 40) := goodIn_r _ [11, 12, 13, 28, 29, 30, 31, 32, 33, 34, 35, 36, 37, 38, 39, 40, 41, 42, 43, 44, 45, 46, 47, 48, 49, 50, 51, 52, 53, 54, 55, 56, 57, 58, 59, 60, 61, 62, 63, 64] (by decide +kernel) (by decide +kernel)
set_option maxRecDepth 20000 in
theorem ggX12_needsWord_X12_fails_c1 : GoodIn wsX12_needsWord ((wsX12_fails).drop 40) := goodIn_r _ [65, 66, 67, 68, 69, 70, 71, 72, 73, 74, 75, 76, 77, 78, 79, 80, 81, 82, 83, 84] (by decide +kernel) (by decide +kernel)
set_option maxRecDepth 20000 in
theorem ggX12_needsWord_X12_fails : GoodIn wsX12_needsWord wsX12_fails := (zgi (wsX12_fails) 40 ggX12_needsWord_X12_fails_c0 ggX12_needsWord_X12_fails_c1)
set_option maxRecDepth 20000 in
theorem gX12_needsWord_X12_fails : GoodIn wsX12_needsWord (wsV RX12 193 RX12 yX12_fails wsX12_fails) := goodIn_app (goodIn_of _ (by decide +kernel)) ggX12_needsWord_X12_fails
set_option maxRecDepth 20000 in
theorem ggX12_needsWord_X12_nextToken_c0 : GoodIn wsX12_needsWord ((wsX12_nextToken).take 40) := goodIn_r _ [17, 18, 19, 20, 12, 7, 21, 6, 22, 23, 24, 25, 26, 4, 27, 28, 29, 30, 31, 32, 33, 34, 35, 36, 37, 38, 39, 40, 41, 42, 43, 44, 45, 46, 47, 48, 49, 50, 51, 52] (by decide +kernel) (by decide +kernel)
set_option maxRecDepth 20000 in
theorem ggX12_needsWord_X12_nextToken_c1 : GoodIn wsX12_needsWord ((wsX12_nextToken).drop 40) := goodIn_r _ [53, 54, 55, 56, 57, 58, 59, 60, 61, 62, 63, 64, 65, 66, 67, 68, 69, 70, 71, 72, 73, 74, 75, 76, 77, 78, 79, 80, 81, 82, 83, 84] (by decide +kernel) (by decide +kernel)
set_option maxRecDepth 20000 in
theorem ggX12_needsWord_X12_nextToken : GoodIn wsX12_needsWord wsX12_nextToken := (zgi (wsX12_nextToken) 40 ggX12_needsWord_X12_nextToken_c0 ggX12_needsWord_X12_nextToken_c1)
set_option maxRecDepth 20000 in
theorem gX12_needsWord_X12_nextToken : GoodIn wsX12_needsWord (wsV RX12 200 RX12 yX12_nextToken wsX12_nextToken) := goodIn_app (goodIn_of _ (by decide +kernel)) ggX12_needsWord_X12_nextToken
set_option maxRecDepth 20000 in
theorem ggX12_needsBoth_X12_needsWord_c0 : GoodIn wsX12_needsBoth ((wsX12_needsWord).take 40) := goodIn_r _ [5, 6, 7, 8, 4, 9, 10, 11, 12, 13, 14, 15, 16, 17, 18, 19, 20, 21, 22, 23, 24, 25, 26, 27, 28, 29, 30, 31, 40, 41, 42, 43, 44, 45, 46, 47, 48, 49, 50, 51] (by decide +kernel) (by decide +kernel)
set_option maxRecDepth 20000 in
theorem ggX12_needsBoth_X12_needsWord_c1 : GoodIn wsX12_needsBoth (((wsX12_needsWord).drop 40).take 40) := goodIn_r _ [52, 53, 54, 55, 56, 57, 58, 59, 60, 61, 62, 63, 64, 65, 66, 67, 68, 69, 70, 71, 72, 73, 74, 75, 76, 77, 78, 79, 80, 81, 82, 83, 84, 85, 86, 87, 88, 89, 90, 91] (by decide +kernel) (by decide +kernel)
set_option maxRecDepth 20000 in
theorem ggX12_needsBoth_X12_needsWord_c2 : GoodIn wsX12_needsBoth (((wsX12_needsWord).drop 40).drop 40) := goodIn_r _ [92, 93, 94, 95, 96] (by decide +kernel) (by decide +kernel)
set_option maxRecDepth 20000 in
theorem ggX12_needsBoth_X12_needsWord : GoodIn wsX12_needsBoth wsX12_needsWord := (zgi (wsX12_needsWord) 40 ggX12_needsBoth_X12_needsWord_c0 (zgi ((wsX12_needsWord).drop 40) 40 ggX12_needsBoth_X12_needsWord_c1 ggX12_needsBoth_X12_needsWord_c2))
set_option maxRecDepth 20000 in
theorem gX12_needsBoth_X12_needsWord : GoodIn wsX12_needsBoth (wsV RX12 259 RX12 yX12_needsWord wsX12_needsWord) := goodIn_app (goodIn_of _ (by decide +kernel)) ggX12_needsBoth_X12_needsWord
set_option maxRecDepth 20000 in
theorem ggX12_needsBoth_X12_needsNumber_c0 : GoodIn wsX12_needsBoth ((wsX12_needsNumber).take 40) := goodIn_r _ [35, 10, 25, 36, 12, 13, 14, 4, 15, 16, 17, 37, 38, 39, 18, 19, 20, 21, 22, 23, 24, 11, 26, 27, 28, 29, 30, 31, 40, 41, 42, 43, 44, 45, 46, 47, 48, 49, 50, 51] (by decide +kernel) (by decide +kernel)
set_option maxRecDepth 20000 in
theorem ggX12_needsBoth_X12_needsNumber_c1 : GoodIn wsX12_needsBoth (((wsX12_needsNumber).drop 40).take 40) := goodIn_r _ [52, 53, 54, 55, 56, 57, 58, 59, 60, 61, 62, 63, 64, 65, 66, 67, 68, 69, 70, 71, 72, 73, 74, 75, 76, 77, 78, 79, 80, 81, 82, 83, 84, 85, 86, 87, 88, 89, 90, 91] (by decide +kernel) (by decide +kernel)
set_option maxRecDepth 20000 in
theorem ggX12_needsBoth_X12_needsNumber_c2 : GoodIn wsX12_needsBoth (((wsX12_needsNumber).drop 40).drop 40) := goodIn_r _ [92, 93, 94, 95, 96] (by decide +kernel) (by decide +kernel)
set_option maxRecDepth 20000 in
theorem ggX12_needsBoth_X12_needsNumber : GoodIn wsX12_needsBoth wsX12_needsNumber := (zgi (wsX12_needsNumber) 40 ggX12_needsBoth_X12_needsNumber_c0 (zgi ((wsX12_needsNumber).drop 40) 40 ggX12_needsBoth_X12_needsNumber_c1 ggX12_needsBoth_X12_needsNumber_c2))
set_option maxRecDepth 20000 in
theorem gX12_needsBoth_X12_needsNumber : GoodIn wsX12_needsBoth (wsV RX12 262 RX12 yX12_needsNumber wsX12_needsNumber) := goodIn_app (goodIn_of _ (by decide +kernel)) ggX12_needsBoth_X12_needsNumber
set_option maxRecDepth 20000 in
theorem ggX12_closes_X12_isSign_c0 : GoodIn wsX12_closes ((wsX12_isSign).take 40) := goodIn_r _ [5, 6, 7, 8, 28, 29, 30, 31, 32, 33, 34, 35, 36, 37, 38, 39, 40, 41, 42, 43, 44, 45, 46, 47, 48, 49, 50, 51, 52, 53, 54, 55, 56, 57, 58, 59, 60, 61, 62, 63] (by decide +kernel) (by decide +kernel)
set_option maxRecDepth 20000 in
theorem ggX12_closes_X12_isSign_c1 : GoodIn wsX12_closes ((wsX12_isSign).drop 40) := goodIn_r _ [64, 65, 66, 67, 68, 69, 70, 71, 72, 73, 74, 75, 76, 77, 78, 79, 80, 81, 82, 83, 84] (by decide +kernel) (by decide +kernel)
set_option maxRecDepth 20000 in
theorem ggX12_closes_X12_isSign : GoodIn wsX12_closes wsX12_isSign := (zgi (wsX12_isSign) 40 ggX12_closes_X12_isSign_c0 ggX12_closes_X12_isSign_c1)
set_option maxRecDepth 20000 in
theorem gX12_closes_X12_isSign : GoodIn wsX12_closes (wsV RX12 189 RX12 yX12_isSign wsX12_isSign) := goodIn_app (goodIn_of _ (by decide +kernel)) ggX12_closes_X12_isSign
