set_option maxRecDepth 20000 in
theorem ggX3_drop_X3_more : GoodIn wsX3_drop wsX3_more := goodIn_r _ [6, 1] (by decide +kernel) (by decide +kernel)
set_option maxRecDepth 20000 in
theorem gX3_drop_X3_more : GoodIn wsX3_drop (va_wsS RX3 43 yX3_more wsX3_more) := goodIn_app (goodIn_of _ (by decide +kernel)) ggX3_drop_X3_more
set_option maxRecDepth 20000 in
theorem ggX3_dark_X3_isDark : GoodIn wsX3_dark wsX3_isDark := goodIn_r _ [6, 7, 8, 9, 10, 11, 12, 13, 14] (by decide +kernel) (by decide +kernel)
set_option maxRecDepth 20000 in
theorem gX3_dark_X3_isDark : GoodIn wsX3_dark (wsV RX3 47 RX3 yX3_isDark wsX3_isDark) := goodIn_app (goodIn_of _ (by decide +kernel)) ggX3_dark_X3_isDark
set_option maxRecDepth 20000 in
theorem ggX3_ends_X3_drop : GoodIn wsX3_ends wsX3_drop := goodIn_r _ [8, 9, 10, 11, 12, 7, 13, 14, 15, 16, 17, 18, 19, 20] (by decide +kernel) (by decide +kernel)
set_option maxRecDepth 20000 in
theorem gX3_ends_X3_drop : GoodIn wsX3_ends (wsV RX3 51 RX3 yX3_drop wsX3_drop) := goodIn_app (goodIn_of _ (by decide +kernel)) ggX3_ends_X3_drop
set_option maxRecDepth 20000 in
theorem ggX3_pass_X3_drop : GoodIn wsX3_pass wsX3_drop := goodIn_r _ [11, 12, 1, 13, 14, 10, 15, 33, 34, 35, 36, 37, 38, 39] (by decide +kernel) (by decide +kernel)
set_option maxRecDepth 20000 in
theorem gX3_pass_X3_drop : GoodIn wsX3_pass (wsV RX3 51 RX3 yX3_drop wsX3_drop) := goodIn_app (goodIn_of _ (by decide +kernel)) ggX3_pass_X3_drop
set_option maxRecDepth 20000 in
theorem ggX3_pass_X3_trustIn : GoodIn wsX3_pass wsX3_trustIn := goodIn_r _ [19, 1, 2, 33, 34, 35, 36, 37, 38, 39] (by decide +kernel) (by decide +kernel)
set_option maxRecDepth 20000 in
theorem gX3_pass_X3_trustIn : GoodIn wsX3_pass (wsV RX3 55 RX3 yX3_trustIn wsX3_trustIn) := goodIn_app (goodIn_of _ (by decide +kernel)) ggX3_pass_X3_trustIn
set_option maxRecDepth 20000 in
theorem ggX3_pass_X3_light : GoodIn wsX3_pass wsX3_light := goodIn_r _ [23, 24, 33, 34, 35, 36, 37, 38, 39] (by decide +kernel) (by decide +kernel)
set_option maxRecDepth 20000 in
theorem gX3_pass_X3_light : GoodIn wsX3_pass (wsV RX3 59 RX3 yX3_light wsX3_light) := goodIn_app (goodIn_of _ (by decide +kernel)) ggX3_pass_X3_light
set_option maxRecDepth 20000 in
theorem ggX3_pass_X3_votes : GoodIn wsX3_pass wsX3_votes := goodIn_r _ [28, 5, 33, 34, 35, 36, 37, 38, 39] (by decide +kernel) (by decide +kernel)
set_option maxRecDepth 20000 in
theorem gX3_pass_X3_votes : GoodIn wsX3_pass (wsV RX3 62 RX3 yX3_votes wsX3_votes) := goodIn_app (goodIn_of _ (by decide +kernel)) ggX3_pass_X3_votes
set_option maxRecDepth 20000 in
theorem ggX3_pass_X3_ends : GoodIn wsX3_pass wsX3_ends := goodIn_r _ [32, 3, 5, 24, 7, 8, 9, 10, 11, 12, 1, 13, 14, 15, 33, 34, 35, 36, 37, 38, 39] (by decide +kernel) (by decide +kernel)
set_option maxRecDepth 20000 in
theorem gX3_pass_X3_ends : GoodIn wsX3_pass (wsV RX3 66 RX3 yX3_ends wsX3_ends) := goodIn_app (goodIn_of _ (by decide +kernel)) ggX3_pass_X3_ends
set_option maxRecDepth 20000 in
theorem ggX3_isSame_X3_votes : GoodIn wsX3_isSame wsX3_votes := goodIn_r _ [12, 2, 222, 223, 224, 225, 226, 227, 228] (by decide +kernel) (by decide +kernel)
set_option maxRecDepth 20000 in
theorem gX3_isSame_X3_votes : GoodIn wsX3_isSame (wsV RX3 62 RX3 yX3_votes wsX3_votes) := goodIn_app (goodIn_of _ (by decide +kernel)) ggX3_isSame_X3_votes
set_option maxRecDepth 20000 in
theorem ggX3_isSame_X2_mastsOf : GoodIn wsX3_isSame wsX2_mastsOf := goodIn_ca (goodIn_r _ [17, 18, 19, 20, 21, 16, 22, 23, 24, 25, 26, 27, 229, 230, 231, 232, 233, 234, 235, 236, 237, 238, 239] (by decide +kernel) (by decide +kernel)) (goodIn_sub (fun _ h => List.mem_cons_of_mem _ (List.mem_append_right _ h)) (by decide +kernel))
set_option maxRecDepth 20000 in
theorem gX3_isSame_X2_mastsOf : GoodIn wsX3_isSame (wsV RX3 70 RX2 yX2_mastsOf wsX2_mastsOf) := goodIn_app (goodIn_of _ (by decide +kernel)) ggX3_isSame_X2_mastsOf
set_option maxRecDepth 20000 in
theorem ggX3_isSame_X2_isAway : GoodIn wsX3_isSame wsX2_isAway := goodIn_ca (goodIn_r _ [31, 32, 19, 20, 21, 16, 22, 23, 24, 18, 33, 34, 35, 36, 37, 38, 26, 27, 229, 230, 231, 232, 233, 234, 235, 236, 237, 238, 239, 240, 241, 242, 243, 244, 245, 246, 247, 248, 249] (by decide +kernel) (by decide +kernel)) (goodIn_sub (fun _ h => List.mem_cons_of_mem _ (List.mem_append_right _ h)) (by decide +kernel))
set_option maxRecDepth 20000 in
theorem gX3_isSame_X2_isAway : GoodIn wsX3_isSame (wsV RX3 75 RX2 yX2_isAway wsX2_isAway) := goodIn_app (goodIn_of _ (by decide +kernel)) ggX3_isSame_X2_isAway
set_option maxRecDepth 20000 in
theorem ggX3_isSame_X2_isLost : GoodIn wsX3_isSame wsX2_isLost := goodIn_ca (goodIn_r _ [42, 32, 19, 20, 21, 16, 22, 23, 24, 18, 33, 34, 35, 36, 37, 38, 26, 27, 229, 230, 231, 232, 233, 234, 235, 236, 237, 238, 239, 240, 241, 242, 243, 244, 245, 246, 247, 248, 249] (by decide +kernel) (by decide +kernel)) (goodIn_sub (fun _ h => List.mem_cons_of_mem _ (List.mem_append_right _ h)) (by decide +kernel))
set_option maxRecDepth 20000 in
theorem gX3_isSame_X2_isLost : GoodIn wsX3_isSame (wsV RX3 79 RX2 yX2_isLost wsX2_isLost) := goodIn_app (goodIn_of _ (by decide +kernel)) ggX3_isSame_X2_isLost
set_option maxRecDepth 20000 in
theorem ggX3_isSame_X2_nightsOut : GoodIn wsX3_isSame wsX2_nightsOut := goodIn_ca (goodIn_r _ [46, 32, 19, 20, 21, 16, 22, 23, 24, 18, 25, 26, 27, 229, 230, 231, 240, 241, 242, 243, 244, 245, 246, 247, 248, 249, 232, 233, 234, 235, 236, 237, 238, 239] (by decide +kernel) (by decide +kernel)) (goodIn_sub (fun _ h => List.mem_cons_of_mem _ (List.mem_append_right _ h)) (by decide +kernel))
set_option maxRecDepth 20000 in
theorem gX3_isSame_X2_nightsOut : GoodIn wsX3_isSame (wsV RX3 82 RX2 yX2_nightsOut wsX2_nightsOut) := goodIn_app (goodIn_of _ (by decide +kernel)) ggX3_isSame_X2_nightsOut
set_option maxRecDepth 20000 in
theorem ggX3_isSame_X2_isRung : GoodIn wsX3_isSame wsX2_isRung := goodIn_ca (goodIn_r _ [50, 32, 19, 20, 21, 16, 22, 23, 24, 18, 51, 52, 53, 229, 230, 231, 240, 241, 242, 243, 244, 245, 246, 247, 248, 249, 232, 233, 234, 235, 236, 237, 238, 239] (by decide +kernel) (by decide +kernel)) (goodIn_sub (fun _ h => List.mem_cons_of_mem _ (List.mem_append_right _ h)) (by decide +kernel))
set_option maxRecDepth 20000 in
theorem gX3_isSame_X2_isRung : GoodIn wsX3_isSame (wsV RX3 85 RX2 yX2_isRung wsX2_isRung) := goodIn_app (goodIn_of _ (by decide +kernel)) ggX3_isSame_X2_isRung
set_option maxRecDepth 20000 in
theorem ggX3_isSame_X2_trustIn : GoodIn wsX3_isSame wsX2_trustIn := goodIn_ca (goodIn_r _ [57, 32, 19, 20, 21, 16, 22, 23, 24, 18, 58, 59, 60, 36, 61, 62, 63, 64, 65, 66, 67, 68, 69, 70, 26, 27, 229, 230, 231, 232, 233, 234, 235, 236, 237, 238, 239, 240, 241, 242, 243, 244, 245, 246, 247, 248, 249] (by decide +kernel) (by decide +kernel)) (goodIn_sub (fun _ h => List.mem_cons_of_mem _ (List.mem_append_right _ h)) (by decide +kernel))
set_option maxRecDepth 20000 in
theorem gX3_isSame_X2_trustIn : GoodIn wsX3_isSame (wsV RX3 88 RX2 yX2_trustIn wsX2_trustIn) := goodIn_app (goodIn_of _ (by decide +kernel)) ggX3_isSame_X2_trustIn
set_option maxRecDepth 20000 in
theorem ggX3_isSame_X3_trustIn : GoodIn wsX3_isSame wsX3_trustIn := goodIn_r _ [74, 4, 3, 222, 223, 224, 225, 226, 227, 228] (by decide +kernel) (by decide +kernel)
set_option maxRecDepth 20000 in
theorem gX3_isSame_X3_trustIn : GoodIn wsX3_isSame (wsV RX3 55 RX3 yX3_trustIn wsX3_trustIn) := goodIn_app (goodIn_of _ (by decide +kernel)) ggX3_isSame_X3_trustIn
set_option maxRecDepth 20000 in
theorem ggX3_isSame_X2_voters : GoodIn wsX3_isSame wsX2_voters := goodIn_ca (goodIn_r _ [78, 18, 19, 20, 21, 16, 22, 23, 24, 79, 80, 81, 82, 83, 84, 85, 86, 87, 88, 89, 229, 230, 231, 232, 233, 234, 235, 236, 237, 238, 239] (by decide +kernel) (by decide +kernel)) (goodIn_sub (fun _ h => List.mem_cons_of_mem _ (List.mem_append_right _ h)) (by decide +kernel))
set_option maxRecDepth 20000 in
theorem gX3_isSame_X2_voters : GoodIn wsX3_isSame (wsV RX3 89 RX2 yX2_voters wsX2_voters) := goodIn_app (goodIn_of _ (by decide +kernel)) ggX3_isSame_X2_voters
set_option maxRecDepth 20000 in
theorem ggX3_isSame_X2_votesForLost : GoodIn wsX3_isSame wsX2_votesForLost := goodIn_ca (goodIn_r _ [93, 18, 19, 20, 21, 16, 22, 23, 24, 94, 95, 96, 82, 97, 98, 85, 86, 87, 88, 89, 229, 230, 231, 232, 233, 234, 235, 236, 237, 238, 239] (by decide +kernel) (by decide +kernel)) (goodIn_sub (fun _ h => List.mem_cons_of_mem _ (List.mem_append_right _ h)) (by decide +kernel))
set_option maxRecDepth 20000 in
theorem gX3_isSame_X2_votesForLost : GoodIn wsX3_isSame (wsV RX3 92 RX2 yX2_votesForLost wsX2_votesForLost) := goodIn_app (goodIn_of _ (by decide +kernel)) ggX3_isSame_X2_votesForLost
set_option maxRecDepth 20000 in
theorem ggX3_isSame_X2_votesMissing : GoodIn wsX3_isSame wsX2_votesMissing := goodIn_ca (goodIn_r _ [102, 18, 19, 20, 21, 16, 22, 23, 24, 103, 104, 105, 82, 106, 107, 108, 109, 110, 111, 80, 81, 83, 84, 85, 86, 87, 88, 89, 112, 95, 96, 97, 98, 229, 230, 231, 232, 233, 234, 235, 236, 237, 238, 239] (by decide +kernel) (by decide +kernel)) (goodIn_sub (fun _ h => List.mem_cons_of_mem _ (List.mem_append_right _ h)) (by decide +kernel))
set_option maxRecDepth 20000 in
theorem gX3_isSame_X2_votesMissing : GoodIn wsX3_isSame (wsV RX3 95 RX2 yX2_votesMissing wsX2_votesMissing) := goodIn_app (goodIn_of _ (by decide +kernel)) ggX3_isSame_X2_votesMissing
set_option maxRecDepth 20000 in
theorem ggX3_isSame_X2_shipOf : GoodIn wsX3_isSame wsX2_shipOf := goodIn_ca (goodIn_r _ [116, 18, 117, 118, 119, 16, 120, 23, 24, 121, 122, 123, 82, 124, 89, 229, 230, 231, 232, 233, 234, 235, 236, 237, 238, 239] (by decide +kernel) (by decide +kernel)) (goodIn_sub (fun _ h => List.mem_cons_of_mem _ (List.mem_append_right _ h)) (by decide +kernel))
set_option maxRecDepth 20000 in
theorem gX3_isSame_X2_shipOf : GoodIn wsX3_isSame (wsV RX3 98 RX2 yX2_shipOf wsX2_shipOf) := goodIn_app (goodIn_of _ (by decide +kernel)) ggX3_isSame_X2_shipOf
set_option maxRecDepth 20000 in
theorem ggX3_isSame_X2_mastOf : GoodIn wsX3_isSame wsX2_mastOf := goodIn_ca (goodIn_r _ [128, 18, 117, 118, 119, 16, 120, 23, 24, 25, 26, 27, 229, 230, 231, 232, 233, 234, 235, 236, 237, 238, 239] (by decide +kernel) (by decide +kernel)) (goodIn_sub (fun _ h => List.mem_cons_of_mem _ (List.mem_append_right _ h)) (by decide +kernel))
set_option maxRecDepth 20000 in
theorem gX3_isSame_X2_mastOf : GoodIn wsX3_isSame (wsV RX3 101 RX2 yX2_mastOf wsX2_mastOf) := goodIn_app (goodIn_of _ (by decide +kernel)) ggX3_isSame_X2_mastOf
set_option maxRecDepth 20000 in
theorem ggX3_isSame_X2_hasVoter : GoodIn wsX3_isSame wsX2_hasVoter := goodIn_ca (goodIn_r _ [132, 18, 117, 118, 119, 16, 120, 23, 24, 51, 52, 53, 229, 230, 231, 232, 233, 234, 235, 236, 237, 238, 239] (by decide +kernel) (by decide +kernel)) (goodIn_sub (fun _ h => List.mem_cons_of_mem _ (List.mem_append_right _ h)) (by decide +kernel))
set_option maxRecDepth 20000 in
theorem gX3_isSame_X2_hasVoter : GoodIn wsX3_isSame (wsV RX3 104 RX2 yX2_hasVoter wsX2_hasVoter) := goodIn_app (goodIn_of _ (by decide +kernel)) ggX3_isSame_X2_hasVoter
set_option maxRecDepth 20000 in
theorem ggX3_isSame_X2_isGivenUp : GoodIn wsX3_isSame wsX2_isGivenUp := goodIn_ca (goodIn_r _ [136, 18, 117, 118, 119, 16, 120, 23, 24, 51, 52, 53, 229, 230, 231, 232, 233, 234, 235, 236, 237, 238, 239] (by decide +kernel) (by decide +kernel)) (goodIn_sub (fun _ h => List.mem_cons_of_mem _ (List.mem_append_right _ h)) (by decide +kernel))
set_option maxRecDepth 20000 in
theorem gX3_isSame_X2_isGivenUp : GoodIn wsX3_isSame (wsV RX3 107 RX2 yX2_isGivenUp wsX2_isGivenUp) := goodIn_app (goodIn_of _ (by decide +kernel)) ggX3_isSame_X2_isGivenUp
set_option maxRecDepth 20000 in
theorem ggX3_isSame_X2_candleOf : GoodIn wsX3_isSame wsX2_candleOf := goodIn_ca (goodIn_r _ [140, 32, 117, 118, 119, 16, 120, 23, 24, 18, 25, 26, 27, 229, 230, 231, 240, 241, 242, 243, 244, 245, 246, 247, 248, 249, 232, 233, 234, 235, 236, 237, 238, 239] (by decide +kernel) (by decide +kernel)) (goodIn_sub (fun _ h => List.mem_cons_of_mem _ (List.mem_append_right _ h)) (by decide +kernel))
set_option maxRecDepth 20000 in
theorem gX3_isSame_X2_candleOf : GoodIn wsX3_isSame (wsV RX3 110 RX2 yX2_candleOf wsX2_candleOf) := goodIn_app (goodIn_of _ (by decide +kernel)) ggX3_isSame_X2_candleOf
set_option maxRecDepth 20000 in
theorem ggX3_isSame_X2_isDark : GoodIn wsX3_isSame wsX2_isDark := goodIn_ca (goodIn_r _ [144, 32, 117, 118, 119, 16, 120, 23, 24, 18, 145, 146, 147, 36, 148, 149, 150, 151, 122, 123, 82, 124, 89, 152, 34, 35, 37, 38, 26, 27, 229, 230, 231, 232, 233, 234, 235, 236, 237, 238, 239, 240, 241, 242, 243, 244, 245, 246, 247, 248, 249] (by decide +kernel) (by decide +kernel)) (goodIn_sub (fun _ h => List.mem_cons_of_mem _ (List.mem_append_right _ h)) (by decide +kernel))
set_option maxRecDepth 20000 in
theorem gX3_isSame_X2_isDark : GoodIn wsX3_isSame (wsV RX3 113 RX2 yX2_isDark wsX2_isDark) := goodIn_app (goodIn_of _ (by decide +kernel)) ggX3_isSame_X2_isDark
set_option maxRecDepth 20000 in
theorem ggX3_isSame_X3_isDark : GoodIn wsX3_isSame wsX3_isDark := goodIn_r _ [156, 1, 222, 223, 224, 225, 226, 227, 228] (by decide +kernel) (by decide +kernel)
set_option maxRecDepth 20000 in
theorem gX3_isSame_X3_isDark : GoodIn wsX3_isSame (wsV RX3 47 RX3 yX3_isDark wsX3_isDark) := goodIn_app (goodIn_of _ (by decide +kernel)) ggX3_isSame_X3_isDark
set_option maxRecDepth 20000 in
theorem ggX3_isSame_X2_trustOf : GoodIn wsX3_isSame wsX2_trustOf := goodIn_ca (goodIn_r _ [160, 32, 161, 162, 163, 16, 164, 23, 24, 18, 25, 26, 27, 229, 230, 231, 240, 241, 242, 243, 244, 245, 246, 247, 248, 249, 232, 233, 234, 235, 236, 237, 238, 239] (by decide +kernel) (by decide +kernel)) (goodIn_sub (fun _ h => List.mem_cons_of_mem _ (List.mem_append_right _ h)) (by decide +kernel))
set_option maxRecDepth 20000 in
theorem gX3_isSame_X2_trustOf : GoodIn wsX3_isSame (wsV RX3 115 RX2 yX2_trustOf wsX2_trustOf) := goodIn_app (goodIn_of _ (by decide +kernel)) ggX3_isSame_X2_trustOf
set_option maxRecDepth 20000 in
theorem ggX3_isSame_X2_ships : GoodIn wsX3_isSame wsX2_ships := goodIn_r _ [168, 18, 229, 230, 231, 232, 233, 234, 235, 236, 237, 238, 239] (by decide +kernel) (by decide +kernel)
set_option maxRecDepth 20000 in
theorem gX3_isSame_X2_ships : GoodIn wsX3_isSame (wsV RX3 118 RX2 yX2_ships wsX2_ships) := goodIn_app (goodIn_of _ (by decide +kernel)) ggX3_isSame_X2_ships
set_option maxRecDepth 20000 in
theorem ggX3_isSame_X2_sailors : GoodIn wsX3_isSame wsX2_sailors := goodIn_r _ [172, 18, 229, 230, 231, 232, 233, 234, 235, 236, 237, 238, 239] (by decide +kernel) (by decide +kernel)
set_option maxRecDepth 20000 in
theorem gX3_isSame_X2_sailors : GoodIn wsX3_isSame (wsV RX3 121 RX2 yX2_sailors wsX2_sailors) := goodIn_app (goodIn_of _ (by decide +kernel)) ggX3_isSame_X2_sailors
set_option maxRecDepth 20000 in
theorem ggX3_isSame_X2_watchers : GoodIn wsX3_isSame wsX2_watchers := goodIn_r _ [176, 18, 229, 230, 231, 232, 233, 234, 235, 236, 237, 238, 239] (by decide +kernel) (by decide +kernel)
set_option maxRecDepth 20000 in
theorem gX3_isSame_X2_watchers : GoodIn wsX3_isSame (wsV RX3 123 RX2 yX2_watchers wsX2_watchers) := goodIn_app (goodIn_of _ (by decide +kernel)) ggX3_isSame_X2_watchers
set_option maxRecDepth 20000 in
theorem ggX3_isSame_X2_sightings : GoodIn wsX3_isSame wsX2_sightings := goodIn_r _ [180, 32, 181, 182, 183, 36, 184, 67, 229, 230, 231, 240, 241, 242, 243, 244, 245, 246, 247, 248, 249] (by decide +kernel) (by decide +kernel)
set_option maxRecDepth 20000 in
theorem gX3_isSame_X2_sightings : GoodIn wsX3_isSame (wsV RX3 126 RX2 yX2_sightings wsX2_sightings) := goodIn_app (goodIn_of _ (by decide +kernel)) ggX3_isSame_X2_sightings
set_option maxRecDepth 20000 in
theorem ggX3_isSame_X2_night : GoodIn wsX3_isSame wsX2_night := goodIn_r _ [188, 32, 229, 230, 231, 240, 241, 242, 243, 244, 245, 246, 247, 248, 249] (by decide +kernel) (by decide +kernel)
set_option maxRecDepth 20000 in
theorem gX3_isSame_X2_night : GoodIn wsX3_isSame (wsV RX3 129 RX2 yX2_night wsX2_night) := goodIn_app (goodIn_of _ (by decide +kernel)) ggX3_isSame_X2_night
set_option maxRecDepth 20000 in
theorem ggX3_isSame_X2_wax : GoodIn wsX3_isSame wsX2_wax := goodIn_r _ [192, 32, 229, 230, 231, 240, 241, 242, 243, 244, 245, 246, 247, 248, 249] (by decide +kernel) (by decide +kernel)
set_option maxRecDepth 20000 in
theorem gX3_isSame_X2_wax : GoodIn wsX3_isSame (wsV RX3 131 RX2 yX2_wax wsX2_wax) := goodIn_app (goodIn_of _ (by decide +kernel)) ggX3_isSame_X2_wax
set_option maxRecDepth 20000 in
theorem ggX3_isSame_X2_darkCandles : GoodIn wsX3_isSame wsX2_darkCandles := goodIn_r _ [196, 32, 197, 198, 199, 36, 200, 201, 146, 147, 148, 149, 150, 151, 122, 123, 82, 124, 89, 152, 34, 35, 37, 38, 26, 16, 27, 229, 230, 231, 240, 241, 242, 243, 244, 245, 246, 247, 248, 249, 232, 233, 234, 235, 236, 237, 238, 239] (by decide +kernel) (by decide +kernel)
set_option maxRecDepth 20000 in
theorem gX3_isSame_X2_darkCandles : GoodIn wsX3_isSame (wsV RX3 133 RX2 yX2_darkCandles wsX2_darkCandles) := goodIn_app (goodIn_of _ (by decide +kernel)) ggX3_isSame_X2_darkCandles
set_option maxRecDepth 20000 in
theorem ggX3_isSame_X3_dark : GoodIn wsX3_isSame wsX3_dark := goodIn_r _ [205, 2, 153, 154, 155, 11, 156, 1, 222, 223, 224, 225, 226, 227, 228] (by decide +kernel) (by decide +kernel)
set_option maxRecDepth 20000 in
theorem gX3_isSame_X3_dark : GoodIn wsX3_isSame (wsV RX3 136 RX3 yX3_dark wsX3_dark) := goodIn_app (goodIn_of _ (by decide +kernel)) ggX3_isSame_X3_dark
set_option maxRecDepth 20000 in
theorem ggX3_isSame_X2_bellsUnrung : GoodIn wsX3_isSame wsX2_bellsUnrung := goodIn_r _ [209, 32, 229, 230, 231, 240, 241, 242, 243, 244, 245, 246, 247, 248, 249] (by decide +kernel) (by decide +kernel)
set_option maxRecDepth 20000 in
theorem gX3_isSame_X2_bellsUnrung : GoodIn wsX3_isSame (wsV RX3 139 RX2 yX2_bellsUnrung wsX2_bellsUnrung) := goodIn_app (goodIn_of _ (by decide +kernel)) ggX3_isSame_X2_bellsUnrung
set_option maxRecDepth 20000 in
theorem ggX3_isSame_X2_namesOnWall : GoodIn wsX3_isSame wsX2_namesOnWall := goodIn_r _ [213, 32, 214, 215, 216, 36, 217, 149, 151, 122, 123, 82, 124, 89, 152, 34, 35, 37, 38, 26, 16, 27, 229, 230, 231, 240, 241, 242, 243, 244, 245, 246, 247, 248, 249, 232, 233, 234, 235, 236, 237, 238, 239] (by decide +kernel) (by decide +kernel)
set_option maxRecDepth 20000 in
theorem gX3_isSame_X2_namesOnWall : GoodIn wsX3_isSame (wsV RX3 142 RX2 yX2_namesOnWall wsX2_namesOnWall) := goodIn_app (goodIn_of _ (by decide +kernel)) ggX3_isSame_X2_namesOnWall
set_option maxRecDepth 20000 in
theorem ggX3_isSame_X2_meanTrust : GoodIn wsX3_isSame wsX2_meanTrust := goodIn_r _ [221, 18, 32, 25, 26, 16, 27, 229, 230, 231, 232, 233, 234, 235, 236, 237, 238, 239, 240, 241, 242, 243, 244, 245, 246, 247, 248, 249] (by decide +kernel) (by decide +kernel)
set_option maxRecDepth 20000 in
theorem gX3_isSame_X2_meanTrust : GoodIn wsX3_isSame (wsV RX3 145 RX2 yX2_meanTrust wsX2_meanTrust) := goodIn_app (goodIn_of _ (by decide +kernel)) ggX3_isSame_X2_meanTrust
set_option maxRecDepth 20000 in
theorem ggL_act_L_below : GoodIn wsL_act wsL_below := goodIn_r _ [11, 12] (by decide +kernel) (by decide +kernel)
set_option maxRecDepth 20000 in
theorem gL_act_L_below : GoodIn wsL_act (va_wsS RL 15 yL_below wsL_below) := goodIn_app (goodIn_of _ (by decide +kernel)) ggL_act_L_below
set_option maxRecDepth 20000 in
theorem ggL_act_L_refused : GoodIn wsL_act wsL_refused := goodIn_r _ [15, 2, 4, 3, 8, 9, 10, 11, 12, 16, 17, 18, 19, 20, 21, 276, 277, 278, 279, 280, 281, 282] (by decide +kernel) (by decide +kernel)
set_option maxRecDepth 20000 in
theorem gL_act_L_refused : GoodIn wsL_act (va_wsS RL 28 yL_refused wsL_refused) := goodIn_app (goodIn_of _ (by decide +kernel)) ggL_act_L_refused
set_option maxRecDepth 20000 in
theorem ggL_act_X2_addShip : GoodIn wsL_act wsX2_addShip := goodIn_ca (goodIn_ca (goodIn_r _ [26, 27, 28, 29, 30, 31, 32, 33, 34, 35, 36, 37, 38, 39, 25, 40, 283, 284, 285, 286, 287, 288, 289, 290, 291, 292, 293] (by decide +kernel) (by decide +kernel)) (goodIn_sub (fun _ h => List.mem_cons_of_mem _ (List.mem_append_left _ (List.mem_append_left _ (List.mem_append_right _ h)))) (by decide +kernel))) (goodIn_sub (fun _ h => List.mem_cons_of_mem _ (List.mem_append_left _ (List.mem_append_right _ h))) (by decide +kernel))
set_option maxRecDepth 20000 in
theorem gL_act_X2_addShip : GoodIn wsL_act (wsV RL 32 RX2 yX2_addShip wsX2_addShip) := goodIn_app (goodIn_of _ (by decide +kernel)) ggL_act_X2_addShip
set_option maxRecDepth 20000 in
theorem ggL_act_X3_more : GoodIn wsL_act wsX3_more := goodIn_r _ [43, 44] (by decide +kernel) (by decide +kernel)
set_option maxRecDepth 20000 in
theorem gL_act_X3_more : GoodIn wsL_act (va_wsS RL 38 yX3_more wsX3_more) := goodIn_app (goodIn_of _ (by decide +kernel)) ggL_act_X3_more
set_option maxRecDepth 20000 in
theorem ggL_act_X2_addSailor : GoodIn wsL_act wsX2_addSailor := goodIn_ca (goodIn_ca (goodIn_r _ [48, 49, 50, 29, 30, 31, 51, 52, 53, 54, 25, 55, 56, 57, 58, 59, 60, 61, 62, 63, 64, 65, 66, 67, 35, 68, 69, 70, 71, 72, 39, 40, 73, 74, 283, 284, 285, 286, 287, 288, 289, 290, 291, 292, 293, 294, 295, 296, 297, 298, 299, 300, 301, 302, 303] (by decide +kernel) (by decide +kernel)) (goodIn_sub (fun _ h => List.mem_cons_of_mem _ (List.mem_append_right _ h)) (by decide +kernel))) (goodIn_sub (fun _ h => List.mem_cons_of_mem _ (List.mem_append_left _ (List.mem_append_right _ h))) (by decide +kernel))
set_option maxRecDepth 20000 in
theorem gL_act_X2_addSailor : GoodIn wsL_act (wsV RL 42 RX2 yX2_addSailor wsX2_addSailor) := goodIn_app (goodIn_of _ (by decide +kernel)) ggL_act_X2_addSailor
set_option maxRecDepth 20000 in
theorem ggL_act_X2_addWatcher : GoodIn wsL_act wsX2_addWatcher := goodIn_ca (goodIn_r _ [78, 29, 30, 31, 51, 79, 80, 81, 35, 82, 83, 84, 39, 25, 40, 283, 284, 285, 286, 287, 288, 289, 290, 291, 292, 293, 294, 295, 296, 297, 298, 299, 300, 301, 302, 303] (by decide +kernel) (by decide +kernel)) (goodIn_sub (fun _ h => List.mem_cons_of_mem _ (List.mem_append_left _ (List.mem_append_right _ h))) (by decide +kernel))
set_option maxRecDepth 20000 in
theorem gL_act_X2_addWatcher : GoodIn wsL_act (wsV RL 46 RX2 yX2_addWatcher wsX2_addWatcher) := goodIn_app (goodIn_of _ (by decide +kernel)) ggL_act_X2_addWatcher
set_option maxRecDepth 20000 in
theorem ggL_act_X2_buyWax : GoodIn wsL_act wsX2_buyWax := goodIn_ca (goodIn_r _ [88, 27, 28, 51, 283, 284, 285, 294, 295, 296, 297, 298, 299, 300, 301, 302, 303] (by decide +kernel) (by decide +kernel)) (goodIn_sub (fun _ h => List.mem_cons_of_mem _ (List.mem_append_left _ (List.mem_append_left _ (List.mem_append_right _ h)))) (by decide +kernel))
set_option maxRecDepth 20000 in
theorem gL_act_X2_buyWax : GoodIn wsL_act (wsV RL 54 RX2 yX2_buyWax wsX2_buyWax) := goodIn_app (goodIn_of _ (by decide +kernel)) ggL_act_X2_buyWax
set_option maxRecDepth 20000 in
theorem ggL_act_X2_sail : GoodIn wsL_act wsX2_sail := goodIn_ca (goodIn_ca (goodIn_r _ [92, 29, 30, 51, 31, 52, 53, 54, 25, 55, 49, 50, 59, 60, 61, 62, 63, 64, 57, 58, 93, 94, 95, 35, 96, 70, 97, 98, 99, 100, 101, 102, 103, 39, 40, 104, 105, 106, 107, 108, 109, 110, 111, 112, 113, 283, 284, 285, 286, 287, 288, 289, 290, 291, 292, 293, 294, 295, 296, 297, 298, 299, 300, 301, 302, 303] (by decide +kernel) (by decide +kernel)) (goodIn_sub (fun _ h => List.mem_cons_of_mem _ (List.mem_append_left _ (List.mem_append_right _ h))) (by decide +kernel))) (goodIn_sub (fun _ h => List.mem_cons_of_mem _ (List.mem_append_right _ h)) (by decide +kernel))
set_option maxRecDepth 20000 in
theorem gL_act_X2_sail : GoodIn wsL_act (wsV RL 57 RX2 yX2_sail wsX2_sail) := goodIn_app (goodIn_of _ (by decide +kernel)) ggL_act_X2_sail
set_option maxRecDepth 20000 in
theorem ggL_act_X3_light : GoodIn wsL_act wsX3_light := goodIn_r _ [117, 118, 276, 277, 278, 279, 280, 281, 282] (by decide +kernel) (by decide +kernel)
set_option maxRecDepth 20000 in
theorem gL_act_X3_light : GoodIn wsL_act (wsV RL 60 RX3 yX3_light wsX3_light) := goodIn_app (goodIn_of _ (by decide +kernel)) ggL_act_X3_light
set_option maxRecDepth 20000 in
theorem ggL_act_X2_comeHome : GoodIn wsL_act wsX2_comeHome := goodIn_ca (goodIn_ca (goodIn_r _ [122, 29, 30, 51, 52, 53, 54, 25, 55, 49, 50, 31, 59, 60, 61, 62, 63, 64, 57, 58, 123, 124, 125, 126, 127, 128, 129, 130, 131, 132, 133, 134, 135, 136, 137, 138, 139, 39, 40, 140, 141, 142, 143, 144, 103, 112, 113, 73, 74, 104, 105, 106, 35, 107, 70, 56, 283, 284, 285, 294, 295, 296, 297, 298, 299, 300, 301, 302, 303, 286, 287, 288, 289, 290, 291, 292, 293] (by decide +kernel) (by decide +kernel)) (goodIn_sub (fun _ h => List.mem_cons_of_mem _ (List.mem_append_left _ (List.mem_append_right _ h))) (by decide +kernel))) (goodIn_sub (fun _ h => List.mem_cons_of_mem _ (List.mem_append_right _ h)) (by decide +kernel))
set_option maxRecDepth 20000 in
theorem gL_act_X2_comeHome : GoodIn wsL_act (wsV RL 64 RX2 yX2_comeHome wsX2_comeHome) := goodIn_app (goodIn_of _ (by decide +kernel)) ggL_act_X2_comeHome
set_option maxRecDepth 20000 in
theorem ggL_act_X3_ends : GoodIn wsL_act wsX3_ends := goodIn_r _ [148, 149, 150, 118, 151, 152, 153, 19, 154, 44, 21, 155, 42, 43, 276, 277, 278, 279, 280, 281, 282] (by decide +kernel) (by decide +kernel)
set_option maxRecDepth 20000 in
theorem gL_act_X3_ends : GoodIn wsL_act (wsV RL 70 RX3 yX3_ends wsX3_ends) := goodIn_app (goodIn_of _ (by decide +kernel)) ggL_act_X3_ends
set_option maxRecDepth 20000 in
theorem ggL_act_X2_sight : GoodIn wsL_act wsX2_sight := goodIn_ca (goodIn_ca (goodIn_r _ [159, 51, 160, 161, 162, 25, 163, 29, 30, 164, 165, 166, 167, 49, 50, 31, 52, 53, 54, 55, 59, 60, 61, 62, 63, 64, 57, 58, 168, 133, 134, 135, 136, 137, 138, 139, 169, 170, 171, 172, 144, 39, 40, 173, 174, 175, 176, 127, 132, 73, 74, 177, 178, 179, 283, 284, 285, 294, 295, 296, 297, 298, 299, 300, 301, 302, 303, 286, 287, 288, 289, 290, 291, 292, 293] (by decide +kernel) (by decide +kernel)) (goodIn_sub (fun _ h => List.mem_cons_of_mem _ (List.mem_append_left _ (List.mem_append_right _ h))) (by decide +kernel))) (goodIn_sub (fun _ h => List.mem_cons_of_mem _ (List.mem_append_right _ h)) (by decide +kernel))
set_option maxRecDepth 20000 in
theorem gL_act_X2_sight : GoodIn wsL_act (wsV RL 74 RX2 yX2_sight wsX2_sight) := goodIn_app (goodIn_of _ (by decide +kernel)) ggL_act_X2_sight
set_option maxRecDepth 20000 in
theorem ggL_act_X3_trustIn : GoodIn wsL_act wsX3_trustIn := goodIn_r _ [183, 21, 184, 276, 277, 278, 279, 280, 281, 282] (by decide +kernel) (by decide +kernel)
set_option maxRecDepth 20000 in
theorem gL_act_X3_trustIn : GoodIn wsL_act (wsV RL 78 RX3 yX3_trustIn wsX3_trustIn) := goodIn_app (goodIn_of _ (by decide +kernel)) ggL_act_X3_trustIn
set_option maxRecDepth 20000 in
theorem ggL_act_X2_vote : GoodIn wsL_act wsX2_vote := goodIn_ca (goodIn_ca (goodIn_r _ [188, 29, 30, 31, 51, 189, 190, 191, 25, 192, 49, 50, 177, 178, 179, 193, 105, 106, 35, 107, 70, 59, 60, 61, 62, 63, 64, 57, 58, 194, 73, 74, 195, 196, 197, 198, 97, 199, 200, 201, 202, 283, 284, 285, 286, 287, 288, 289, 290, 291, 292, 293, 294, 295, 296, 297, 298, 299, 300, 301, 302, 303] (by decide +kernel) (by decide +kernel)) (goodIn_sub (fun _ h => List.mem_cons_of_mem _ (List.mem_append_left _ (List.mem_append_right _ h))) (by decide +kernel))) (goodIn_sub (fun _ h => List.mem_cons_of_mem _ (List.mem_append_right _ h)) (by decide +kernel))
set_option maxRecDepth 20000 in
theorem gL_act_X2_vote : GoodIn wsL_act (wsV RL 81 RX2 yX2_vote wsX2_vote) := goodIn_app (goodIn_of _ (by decide +kernel)) ggL_act_X2_vote
set_option maxRecDepth 20000 in
theorem ggL_act_X3_votes : GoodIn wsL_act wsX3_votes := goodIn_r _ [206, 150, 276, 277, 278, 279, 280, 281, 282] (by decide +kernel) (by decide +kernel)
set_option maxRecDepth 20000 in
theorem gL_act_X3_votes : GoodIn wsL_act (wsV RL 85 RX3 yX3_votes wsX3_votes) := goodIn_app (goodIn_of _ (by decide +kernel)) ggL_act_X3_votes
set_option maxRecDepth 20000 in
theorem ggL_act_X3_pass : GoodIn wsL_act wsX3_pass := goodIn_r _ [210, 21, 184, 149, 211, 150, 212, 151, 152, 153, 19, 154, 44, 155, 42, 43, 213, 181, 182, 183, 214, 115, 116, 117, 118, 215, 204, 205, 206, 216, 146, 147, 148, 276, 277, 278, 279, 280, 281, 282] (by decide +kernel) (by decide +kernel)
set_option maxRecDepth 20000 in
theorem gL_act_X3_pass : GoodIn wsL_act (wsV RL 88 RX3 yX3_pass wsX3_pass) := goodIn_app (goodIn_of _ (by decide +kernel)) ggL_act_X3_pass
set_option maxRecDepth 20000 in
theorem ggL_act_X2_burnNights : GoodIn wsL_act wsX2_burnNights := goodIn_ca (goodIn_r _ [220, 51, 221, 222, 25, 223, 27, 28, 224, 225, 226, 62, 227, 228, 229, 230, 231, 232, 233, 234, 235, 236, 136, 237, 238, 239, 240, 241, 242, 243, 127, 244, 245, 130, 246, 57, 58, 39, 40, 247, 248, 249, 250, 144, 251, 178, 179, 173, 174, 175, 176, 132, 133, 134, 135, 137, 138, 139, 73, 74, 252, 253, 254, 255, 103, 113, 104, 105, 106, 35, 107, 70, 256, 60, 61, 63, 64, 257, 258, 259, 260, 108, 109, 110, 111, 112, 261, 262, 263, 264, 102, 265, 266, 267, 268, 269, 270, 271, 272, 273, 72, 199, 200, 201, 202, 274, 196, 197, 198, 97, 275, 141, 142, 143, 283, 284, 285, 294, 295, 296, 297, 298, 299, 300, 301, 302, 303, 286, 287, 288, 289, 290, 291, 292, 293] (by decide +kernel) (by decide +kernel)) (goodIn_sub (fun _ h => List.mem_cons_of_mem _ (List.mem_append_left _ (List.mem_append_left _ (List.mem_append_right _ h)))) (by decide +kernel))
set_option maxRecDepth 20000 in
theorem gL_act_X2_burnNights : GoodIn wsL_act (wsV RL 91 RX2 yX2_burnNights wsX2_burnNights) := goodIn_app (goodIn_of _ (by decide +kernel)) ggL_act_X2_burnNights
set_option maxRecDepth 20000 in
theorem ggL_refused_L_below : GoodIn wsL_refused wsL_below := goodIn_r _ [7, 8] (by decide +kernel) (by decide +kernel)
set_option maxRecDepth 20000 in
theorem gL_refused_L_below : GoodIn wsL_refused (va_wsS RL 15 yL_below wsL_below) := goodIn_app (goodIn_of _ (by decide +kernel)) ggL_refused_L_below
set_option maxRecDepth 20000 in
theorem ggL_refused_X3_isSighted : GoodIn wsL_refused wsX3_isSighted := goodIn_r _ [13, 14, 15, 16, 17, 18, 19, 20, 21] (by decide +kernel) (by decide +kernel)
set_option maxRecDepth 20000 in
theorem gL_refused_X3_isSighted : GoodIn wsL_refused (wsV RL 96 RX3 yX3_isSighted wsX3_isSighted) := goodIn_app (goodIn_of _ (by decide +kernel)) ggL_refused_X3_isSighted
set_option maxRecDepth 20000 in
theorem ggL_build_X3_init : GoodIn wsL_build wsX3_init := goodIn_r _ [10, 11, 12, 13, 14, 15, 16, 5, 17, 18, 94, 95, 96, 97, 98, 99, 100] (by decide +kernel) (by decide +kernel)
set_option maxRecDepth 20000 in
theorem gL_build_X3_init_n99 : GoodIn wsL_build (wsX3_init) := ggL_build_X3_init
set_option maxRecDepth 20000 in
theorem ggL_build_L_cell : GoodIn wsL_build wsL_cell := goodIn_r _ [22, 23] (by decide +kernel) (by decide +kernel)
set_option maxRecDepth 20000 in
theorem gL_build_L_cell : GoodIn wsL_build (va_wsS RL 100 yL_cell wsL_cell) := goodIn_app (goodIn_of _ (by decide +kernel)) ggL_build_L_cell
set_option maxRecDepth 20000 in
theorem ggL_build_L_below : GoodIn wsL_build wsL_below := goodIn_r _ [26, 27] (by decide +kernel) (by decide +kernel)
set_option maxRecDepth 20000 in
theorem gL_build_L_below : GoodIn wsL_build (va_wsS RL 15 yL_below wsL_below) := goodIn_app (goodIn_of _ (by decide +kernel)) ggL_build_L_below
set_option maxRecDepth 20000 in
theorem ggL_build_X3_more : GoodIn wsL_build wsX3_more := goodIn_r _ [30, 14] (by decide +kernel) (by decide +kernel)
set_option maxRecDepth 20000 in
theorem gL_build_X3_more : GoodIn wsL_build (va_wsS RL 38 yX3_more wsX3_more) := goodIn_app (goodIn_of _ (by decide +kernel)) ggL_build_X3_more
set_option maxRecDepth 20000 in
theorem ggL_build_X2_addShip : GoodIn wsL_build wsX2_addShip := goodIn_ca (goodIn_ca (goodIn_r _ [35, 36, 37, 38, 39, 40, 41, 42, 43, 44, 45, 46, 47, 48, 34, 49, 101, 102, 103, 104, 105, 106, 107, 108, 109, 110, 111] (by decide +kernel) (by decide +kernel)) (goodIn_sub (fun _ h => List.mem_cons_of_mem _ (List.mem_append_left _ (List.mem_append_left _ (List.mem_append_right _ h)))) (by decide +kernel))) (goodIn_sub (fun _ h => List.mem_cons_of_mem _ (List.mem_append_left _ (List.mem_append_right _ h))) (by decide +kernel))
set_option maxRecDepth 20000 in
theorem gL_build_X2_addShip : GoodIn wsL_build (wsV RL 32 RX2 yX2_addShip wsX2_addShip) := goodIn_app (goodIn_of _ (by decide +kernel)) ggL_build_X2_addShip
set_option maxRecDepth 20000 in
theorem ggL_build_X2_addSailor : GoodIn wsL_build wsX2_addSailor := goodIn_ca (goodIn_ca (goodIn_r _ [53, 54, 55, 38, 39, 40, 56, 57, 58, 59, 34, 60, 61, 62, 63, 64, 65, 66, 67, 68, 69, 70, 71, 72, 44, 73, 74, 75, 76, 77, 48, 49, 78, 79, 101, 102, 103, 104, 105, 106, 107, 108, 109, 110, 111, 112, 113, 114, 115, 116, 117, 118, 119, 120, 121] (by decide +kernel) (by decide +kernel)) (goodIn_sub (fun _ h => List.mem_cons_of_mem _ (List.mem_append_right _ h)) (by decide +kernel))) (goodIn_sub (fun _ h => List.mem_cons_of_mem _ (List.mem_append_left _ (List.mem_append_right _ h))) (by decide +kernel))
set_option maxRecDepth 20000 in
theorem gL_build_X2_addSailor : GoodIn wsL_build (wsV RL 42 RX2 yX2_addSailor wsX2_addSailor) := goodIn_app (goodIn_of _ (by decide +kernel)) ggL_build_X2_addSailor
set_option maxRecDepth 20000 in
theorem ggL_build_X2_addWatcher : GoodIn wsL_build wsX2_addWatcher := goodIn_ca (goodIn_r _ [83, 38, 39, 40, 56, 84, 85, 86, 44, 87, 88, 89, 48, 34, 49, 101, 102, 103, 104, 105, 106, 107, 108, 109, 110, 111, 112, 113, 114, 115, 116, 117, 118, 119, 120, 121] (by decide +kernel) (by decide +kernel)) (goodIn_sub (fun _ h => List.mem_cons_of_mem _ (List.mem_append_left _ (List.mem_append_right _ h))) (by decide +kernel))
set_option maxRecDepth 20000 in
theorem gL_build_X2_addWatcher : GoodIn wsL_build (wsV RL 46 RX2 yX2_addWatcher wsX2_addWatcher) := goodIn_app (goodIn_of _ (by decide +kernel)) ggL_build_X2_addWatcher
set_option maxRecDepth 20000 in
theorem ggL_build_X2_buyWax : GoodIn wsL_build wsX2_buyWax := goodIn_ca (goodIn_r _ [93, 36, 37, 56, 101, 102, 103, 112, 113, 114, 115, 116, 117, 118, 119, 120, 121] (by decide +kernel) (by decide +kernel)) (goodIn_sub (fun _ h => List.mem_cons_of_mem _ (List.mem_append_left _ (List.mem_append_left _ (List.mem_append_right _ h)))) (by decide +kernel))
set_option maxRecDepth 20000 in
theorem gL_build_X2_buyWax : GoodIn wsL_build (wsV RL 54 RX2 yX2_buyWax wsX2_buyWax) := goodIn_app (goodIn_of _ (by decide +kernel)) ggL_build_X2_buyWax
set_option maxRecDepth 20000 in
theorem ggL_law_X2_init : GoodIn wsL_law wsX2_init := goodIn_r _ [16, 17, 18, 19, 20, 21, 22, 23, 24, 25, 26, 27, 28, 29, 30, 31, 32, 3, 33, 34, 35, 36, 37, 38, 39, 40, 41, 42, 43, 44, 45, 46, 47, 48, 49, 527, 528, 529, 530, 531, 532, 533, 534, 517, 518, 519, 535, 536, 537, 538, 539, 540, 541, 542, 543, 544] (by decide +kernel) (by decide +kernel)
set_option maxRecDepth 20000 in
theorem gL_law_X2_init : GoodIn wsL_law (wsX2_init) := ggL_law_X2_init
set_option maxRecDepth 100000 in
theorem ggL_law_L_build_wsL_build_r1 : GoodIn wsL_law wsL_build_r1 := goodIn_r _ [54, 55, 56, 8, 3, 57, 58, 10, 59, 60, 61, 18, 19, 62, 63, 64, 65, 66, 67, 68, 52, 69, 70, 71] (by decide +kernel) (by decide +kernel)
set_option maxRecDepth 100000 in
theorem ggL_law_L_build_wsL_build_r2 : GoodIn wsL_law wsL_build_r2 := goodIn_r _ [72, 73, 74, 75, 76, 77, 78, 79, 80, 2, 81, 82, 83, 84, 85, 23, 86, 87, 88, 22, 89, 90, 33, 91] (by decide +kernel) (by decide +kernel)
set_option maxRecDepth 100000 in
theorem ggL_law_L_build_wsL_build_r3 : GoodIn wsL_law wsL_build_r3 := goodIn_r _ [92, 93, 94, 95, 96, 97, 98, 27, 99, 100, 101, 102, 103, 104, 105, 106, 107, 108, 26, 109, 43, 110, 111, 112] (by decide +kernel) (by decide +kernel)
set_option maxRecDepth 100000 in
theorem ggL_law_L_build_wsL_build_r4 : GoodIn wsL_law wsL_build_r4 := goodIn_r _ [113, 114, 34, 35, 37, 115, 116, 117, 118, 119, 120, 121, 122, 123, 124, 125, 126, 127, 128, 129, 130] (by decide +kernel) (by decide +kernel)
set_option maxRecDepth 100000 in
theorem ggL_law_L_build_wsX30 : GoodIn wsL_law wsX30 := goodIn_r _ [520, 521, 522, 523, 524, 525, 526] (by decide +kernel) (by decide +kernel)
set_option maxRecDepth 100000 in
theorem ggL_law_L_build_wsX20 : GoodIn wsL_law wsX20 := goodIn_r _ [517, 518, 519] (by decide +kernel) (by decide +kernel)
set_option maxRecDepth 100000 in
theorem ggL_law_L_build_wsX10 : GoodIn wsL_law wsX10 := goodIn_r _ [527, 528, 529, 530, 531, 532, 533, 534] (by decide +kernel) (by decide +kernel)
set_option maxRecDepth 100000 in
theorem ggL_law_L_build_wsX00 : GoodIn wsL_law wsX00 := goodIn_r _ [535, 536, 537, 538, 539, 540, 541, 542, 543, 544] (by decide +kernel) (by decide +kernel)
set_option maxRecDepth 100000 in
theorem ggL_law_L_build_h : GoodIn wsL_law [.code yL_build cL_build 10 (some (.object "SailorCandlesLaw$Sim"))] := goodIn_r _ [53] (by decide +kernel) (by decide +kernel)
set_option maxRecDepth 20000 in
theorem ggL_law_L_build : GoodIn wsL_law wsL_build := goodIn_ca (goodIn_ca (goodIn_ca ((fun w h => (List.mem_cons.mp h).elim (fun e => ggL_law_L_build_h w (List.mem_singleton.mpr e)) (fun h => (fun w h => (List.mem_append.mp h).elim ((fun w h => (List.mem_append.mp h).elim ((fun w h => (List.mem_append.mp h).elim ((fun w h => (List.mem_append.mp h).elim ((fun w h => (List.mem_append.mp h).elim (ggL_law_L_build_wsL_build_r1 w) ((fun w h => (List.mem_append.mp h).elim (ggL_law_L_build_wsL_build_r2 w) ((fun w h => (List.mem_append.mp h).elim (ggL_law_L_build_wsL_build_r3 w) (ggL_law_L_build_wsL_build_r4 w)) w)) w)) w) (ggL_law_L_build_wsX30 w)) w) (ggL_law_L_build_wsX20 w)) w) (ggL_law_L_build_wsX10 w)) w) (ggL_law_L_build_wsX00 w)) w h))) (goodIn_sub (fun _ h => List.mem_append_left _ (List.mem_append_left _ (List.mem_append_right _ h))) (by decide +kernel))) (goodIn_sub (fun _ h => List.mem_append_left _ (List.mem_append_right _ h)) (by decide +kernel))) (goodIn_sub (fun _ h => List.mem_append_right _ h) (by decide +kernel))
set_option maxRecDepth 20000 in
theorem gL_law_L_build : GoodIn wsL_law (va_wsS RL 105 yL_build wsL_build) := goodIn_app (goodIn_of _ (by decide +kernel)) ggL_law_L_build
set_option maxRecDepth 20000 in
theorem ggL_law_L_cell : GoodIn wsL_law wsL_cell := goodIn_r _ [69, 70] (by decide +kernel) (by decide +kernel)
set_option maxRecDepth 20000 in
theorem gL_law_L_cell : GoodIn wsL_law (va_wsS RL 100 yL_cell wsL_cell) := goodIn_app (goodIn_of _ (by decide +kernel)) ggL_law_L_cell
set_option maxRecDepth 100000 in
theorem ggL_law_L_act_wsL_act_r1 : GoodIn wsL_law wsL_act_r1 := goodIn_r _ [134, 8, 58, 57, 3, 10, 9, 71, 72, 52, 73, 74, 135, 136, 137, 138, 139, 140, 56, 141, 66, 78, 79, 80] (by decide +kernel) (by decide +kernel)
set_option maxRecDepth 100000 in
theorem ggL_law_L_act_wsL_act_r2 : GoodIn wsL_law wsL_act_r2 := goodIn_r _ [2, 81, 82, 83, 84, 85, 23, 86, 87, 88, 22, 89, 90, 33, 91, 92, 75, 76, 77, 62, 93, 94, 95, 96] (by decide +kernel) (by decide +kernel)
set_option maxRecDepth 100000 in
theorem ggL_law_L_act_wsL_act_r3 : GoodIn wsL_law wsL_act_r3 := goodIn_r _ [97, 98, 27, 99, 100, 101, 102, 103, 104, 105, 106, 107, 108, 26, 109, 43, 110, 111, 112, 113, 114, 34, 35, 37] (by decide +kernel) (by decide +kernel)
set_option maxRecDepth 100000 in
theorem ggL_law_L_act_wsL_act_r4 : GoodIn wsL_law wsL_act_r4 := goodIn_r _ [115, 116, 117, 118, 119, 120, 121, 122, 123, 124, 125, 126, 127, 128, 129, 130, 142, 143, 144, 145, 146, 147, 148, 149] (by decide +kernel) (by decide +kernel)
set_option maxRecDepth 100000 in
theorem ggL_law_L_act_wsL_act_r5 : GoodIn wsL_law wsL_act_r5 := goodIn_r _ [38, 150, 151, 152, 153, 44, 49, 154, 155, 156, 157, 158, 159, 160, 161, 162, 46, 163, 164, 165, 166, 167, 168, 169] (by decide +kernel) (by decide +kernel)
set_option maxRecDepth 100000 in
theorem ggL_law_L_act_wsL_act_r6 : GoodIn wsL_law wsL_act_r6 := goodIn_r _ [170, 171, 172, 173, 174, 175, 47, 176, 12, 6, 13, 177, 178, 179, 180, 48, 181, 182, 183, 184, 185, 186, 187, 45] (by decide +kernel) (by decide +kernel)
set_option maxRecDepth 100000 in
theorem ggL_law_L_act_wsL_act_r7 : GoodIn wsL_law wsL_act_r7 := goodIn_r _ [188, 189, 190, 191, 63, 64, 192, 193, 194, 195, 196, 197, 198, 199, 200, 201, 202, 203, 204, 205, 206, 207, 208, 209] (by decide +kernel) (by decide +kernel)
set_option maxRecDepth 100000 in
theorem ggL_law_L_act_wsL_act_r8 : GoodIn wsL_law wsL_act_r8 := goodIn_r _ [210, 211, 212, 213, 214, 215, 216, 217, 218, 219, 220, 221, 222, 223, 224, 65, 225, 226, 227, 228, 229, 230, 231, 232] (by decide +kernel) (by decide +kernel)
set_option maxRecDepth 100000 in
theorem ggL_law_L_act_wsL_act_r9 : GoodIn wsL_law wsL_act_r9 := goodIn_r _ [233, 234, 235, 236, 237, 238, 239, 240, 241, 242, 243, 244, 245, 246, 247, 248, 249, 250, 251, 252, 253, 254, 255, 256] (by decide +kernel) (by decide +kernel)
set_option maxRecDepth 100000 in
theorem ggL_law_L_act_wsL_act_r10 : GoodIn wsL_law wsL_act_r10 := goodIn_r _ [257, 258, 259, 260, 261, 262, 263, 264, 265, 266, 267, 268, 269, 270, 271, 272, 273, 274, 275, 276, 277, 278, 279, 280] (by decide +kernel) (by decide +kernel)
set_option maxRecDepth 100000 in
theorem ggL_law_L_act_wsL_act_r11 : GoodIn wsL_law wsL_act_r11 := goodIn_r _ [281, 282, 283, 284, 5, 7, 285, 286, 287, 288, 289, 290, 291, 292, 293, 294, 295, 296, 297, 298, 299, 300, 301, 302] (by decide +kernel) (by decide +kernel)
set_option maxRecDepth 100000 in
theorem ggL_law_L_act_wsL_act_r12 : GoodIn wsL_law wsL_act_r12 := goodIn_r _ [303, 304, 305, 306, 307, 308, 309, 310, 311, 312, 313] (by decide +kernel) (by decide +kernel)
set_option maxRecDepth 100000 in
theorem ggL_law_L_act_wsX30 : GoodIn wsL_law wsX30 := goodIn_r _ [520, 521, 522, 523, 524, 525, 526] (by decide +kernel) (by decide +kernel)
set_option maxRecDepth 100000 in
theorem ggL_law_L_act_wsX20 : GoodIn wsL_law wsX20 := goodIn_r _ [517, 518, 519] (by decide +kernel) (by decide +kernel)
set_option maxRecDepth 100000 in
theorem ggL_law_L_act_wsX10 : GoodIn wsL_law wsX10 := goodIn_r _ [527, 528, 529, 530, 531, 532, 533, 534] (by decide +kernel) (by decide +kernel)
set_option maxRecDepth 100000 in
theorem ggL_law_L_act_wsX00 : GoodIn wsL_law wsX00 := goodIn_r _ [535, 536, 537, 538, 539, 540, 541, 542, 543, 544] (by decide +kernel) (by decide +kernel)
set_option maxRecDepth 100000 in
theorem ggL_law_L_act_h : GoodIn wsL_law [.codeWith yL_act cL_act 12 (some .boolean) [(103, 217, 1043, 94), (218, 270, 1043, 94), (271, 322, 1043, 94), (323, 391, 1043, 94), (392, 403, 1043, 94), (404, 478, 1043, 94), (479, 537, 1043, 94), (538, 550, 1043, 94), (551, 656, 1043, 94), (657, 669, 1043, 94), (670, 774, 1043, 94), (775, 784, 1043, 94), (785, 799, 1043, 94), (800, 877, 1043, 94), (878, 887, 1043, 94), (888, 930, 1043, 94), (931, 970, 1043, 94), (971, 1042, 1043, 94)]] := goodIn_r _ [133] rfl (by decide +kernel)
set_option maxRecDepth 20000 in
theorem ggL_law_L_act : GoodIn wsL_law wsL_act := goodIn_ca (goodIn_ca (goodIn_ca ((fun w h => (List.mem_cons.mp h).elim (fun e => ggL_law_L_act_h w (List.mem_singleton.mpr e)) (fun h => (fun w h => (List.mem_append.mp h).elim ((fun w h => (List.mem_append.mp h).elim ((fun w h => (List.mem_append.mp h).elim ((fun w h => (List.mem_append.mp h).elim ((fun w h => (List.mem_append.mp h).elim (ggL_law_L_act_wsL_act_r1 w) ((fun w h => (List.mem_append.mp h).elim (ggL_law_L_act_wsL_act_r2 w) ((fun w h => (List.mem_append.mp h).elim (ggL_law_L_act_wsL_act_r3 w) ((fun w h => (List.mem_append.mp h).elim (ggL_law_L_act_wsL_act_r4 w) ((fun w h => (List.mem_append.mp h).elim (ggL_law_L_act_wsL_act_r5 w) ((fun w h => (List.mem_append.mp h).elim (ggL_law_L_act_wsL_act_r6 w) ((fun w h => (List.mem_append.mp h).elim (ggL_law_L_act_wsL_act_r7 w) ((fun w h => (List.mem_append.mp h).elim (ggL_law_L_act_wsL_act_r8 w) ((fun w h => (List.mem_append.mp h).elim (ggL_law_L_act_wsL_act_r9 w) ((fun w h => (List.mem_append.mp h).elim (ggL_law_L_act_wsL_act_r10 w) ((fun w h => (List.mem_append.mp h).elim (ggL_law_L_act_wsL_act_r11 w) (ggL_law_L_act_wsL_act_r12 w)) w)) w)) w)) w)) w)) w)) w)) w)) w)) w)) w) (ggL_law_L_act_wsX30 w)) w) (ggL_law_L_act_wsX20 w)) w) (ggL_law_L_act_wsX10 w)) w) (ggL_law_L_act_wsX00 w)) w h))) (goodIn_sub (fun _ h => List.mem_append_left _ (List.mem_append_left _ (List.mem_append_right _ h))) (by decide +kernel))) (goodIn_sub (fun _ h => List.mem_append_left _ (List.mem_append_right _ h)) (by decide +kernel))) (goodIn_sub (fun _ h => List.mem_append_right _ h) (by decide +kernel))
set_option maxRecDepth 20000 in
theorem gL_law_L_act : GoodIn wsL_law (va_wsS RL 109 yL_act wsL_act) := goodIn_app (goodIn_of _ (by decide +kernel)) ggL_law_L_act
set_option maxRecDepth 20000 in
theorem ggL_law_X2_digest : GoodIn wsL_law wsX2_digest := goodIn_r _ [317, 318, 23, 27, 319, 320, 2, 321, 322, 323, 324, 325, 26, 326, 48, 327, 328, 329, 330, 331, 332, 333, 334, 49, 46, 154, 155, 156, 22, 157, 34, 294, 107, 108, 109, 43, 104, 105, 335, 336, 337, 338, 339, 340, 341, 342, 103, 106, 343, 344, 345, 218, 219, 220, 346, 215, 216, 217, 47, 177, 178, 179, 180, 181, 182, 183, 347, 309, 310, 311, 37, 239, 240, 241, 242, 235, 236, 237, 238, 38, 348, 349, 350, 351, 233, 517, 518, 519, 527, 528, 529, 530, 531, 532, 533, 534, 535, 536, 537, 538, 539, 540, 541, 542, 543, 544] (by decide +kernel) (by decide +kernel)
set_option maxRecDepth 20000 in
theorem gL_law_X2_digest : GoodIn wsL_law (wsV RL 113 RX2 yX2_digest wsX2_digest) := goodIn_app (goodIn_of _ (by decide +kernel)) ggL_law_X2_digest
set_option maxRecDepth 20000 in
theorem ggL_law_X2_ships : GoodIn wsL_law wsX2_ships := goodIn_r _ [355, 23, 517, 518, 519, 527, 528, 529, 530, 531, 532, 533, 534] (by decide +kernel) (by decide +kernel)
set_option maxRecDepth 20000 in
theorem gL_law_X2_ships : GoodIn wsL_law (wsV RL 117 RX2 yX2_ships wsX2_ships) := goodIn_app (goodIn_of _ (by decide +kernel)) ggL_law_X2_ships
set_option maxRecDepth 20000 in
theorem ggL_law_X2_wax : GoodIn wsL_law wsX2_wax := goodIn_r _ [359, 27, 517, 518, 519, 535, 536, 537, 538, 539, 540, 541, 542, 543, 544] (by decide +kernel) (by decide +kernel)
set_option maxRecDepth 20000 in
theorem gL_law_X2_wax : GoodIn wsL_law (wsV RL 119 RX2 yX2_wax wsX2_wax) := goodIn_app (goodIn_of _ (by decide +kernel)) ggL_law_X2_wax
set_option maxRecDepth 20000 in
theorem ggL_law_X2_sailors : GoodIn wsL_law wsX2_sailors := goodIn_r _ [363, 23, 517, 518, 519, 527, 528, 529, 530, 531, 532, 533, 534] (by decide +kernel) (by decide +kernel)
set_option maxRecDepth 20000 in
theorem gL_law_X2_sailors : GoodIn wsL_law (wsV RL 121 RX2 yX2_sailors wsX2_sailors) := goodIn_app (goodIn_of _ (by decide +kernel)) ggL_law_X2_sailors
set_option maxRecDepth 20000 in
theorem ggL_law_X2_shipOf : GoodIn wsL_law wsX2_shipOf := goodIn_ca (goodIn_r _ [367, 23, 229, 230, 231, 2, 232, 97, 98, 233, 155, 156, 22, 157, 34, 517, 518, 519, 527, 528, 529, 530, 531, 532, 533, 534] (by decide +kernel) (by decide +kernel)) (goodIn_sub (fun _ h => List.mem_append_right _ h) (by decide +kernel))
set_option maxRecDepth 20000 in
theorem gL_law_X2_shipOf : GoodIn wsL_law (wsV RL 123 RX2 yX2_shipOf wsX2_shipOf) := goodIn_app (goodIn_of _ (by decide +kernel)) ggL_law_X2_shipOf
set_option maxRecDepth 20000 in
theorem ggL_law_X2_isAway : GoodIn wsL_law wsX2_isAway := goodIn_ca (goodIn_r _ [371, 27, 99, 100, 101, 2, 102, 97, 98, 23, 106, 107, 108, 26, 109, 43, 104, 105, 517, 518, 519, 527, 528, 529, 530, 531, 532, 533, 534, 535, 536, 537, 538, 539, 540, 541, 542, 543, 544] (by decide +kernel) (by decide +kernel)) (goodIn_sub (fun _ h => List.mem_append_right _ h) (by decide +kernel))
set_option maxRecDepth 20000 in
theorem gL_law_X2_isAway : GoodIn wsL_law (wsV RL 126 RX2 yX2_isAway wsX2_isAway) := goodIn_app (goodIn_of _ (by decide +kernel)) ggL_law_X2_isAway
set_option maxRecDepth 20000 in
theorem ggL_law_X2_isLost : GoodIn wsL_law wsX2_isLost := goodIn_ca (goodIn_r _ [375, 27, 99, 100, 101, 2, 102, 97, 98, 23, 106, 107, 108, 26, 109, 43, 104, 105, 517, 518, 519, 527, 528, 529, 530, 531, 532, 533, 534, 535, 536, 537, 538, 539, 540, 541, 542, 543, 544] (by decide +kernel) (by decide +kernel)) (goodIn_sub (fun _ h => List.mem_append_right _ h) (by decide +kernel))
set_option maxRecDepth 20000 in
theorem gL_law_X2_isLost : GoodIn wsL_law (wsV RL 130 RX2 yX2_isLost wsX2_isLost) := goodIn_app (goodIn_of _ (by decide +kernel)) ggL_law_X2_isLost
set_option maxRecDepth 20000 in
theorem ggL_law_X2_candleOf : GoodIn wsL_law wsX2_candleOf := goodIn_ca (goodIn_r _ [379, 27, 229, 230, 231, 2, 232, 97, 98, 23, 103, 104, 105, 517, 518, 519, 535, 536, 537, 538, 539, 540, 541, 542, 543, 544, 527, 528, 529, 530, 531, 532, 533, 534] (by decide +kernel) (by decide +kernel)) (goodIn_sub (fun _ h => List.mem_append_right _ h) (by decide +kernel))
set_option maxRecDepth 20000 in
theorem gL_law_X2_candleOf : GoodIn wsL_law (wsV RL 133 RX2 yX2_candleOf wsX2_candleOf) := goodIn_app (goodIn_of _ (by decide +kernel)) ggL_law_X2_candleOf
set_option maxRecDepth 20000 in
theorem ggL_law_X2_isDark : GoodIn wsL_law wsX2_isDark := goodIn_ca (goodIn_r _ [383, 27, 229, 230, 231, 2, 232, 97, 98, 23, 384, 332, 333, 26, 334, 49, 46, 154, 155, 156, 22, 157, 34, 294, 107, 108, 109, 43, 104, 105, 517, 518, 519, 527, 528, 529, 530, 531, 532, 533, 534, 535, 536, 537, 538, 539, 540, 541, 542, 543, 544] (by decide +kernel) (by decide +kernel)) (goodIn_sub (fun _ h => List.mem_append_right _ h) (by decide +kernel))
set_option maxRecDepth 20000 in
theorem gL_law_X2_isDark : GoodIn wsL_law (wsV RL 136 RX2 yX2_isDark wsX2_isDark) := goodIn_app (goodIn_of _ (by decide +kernel)) ggL_law_X2_isDark
set_option maxRecDepth 20000 in
theorem ggL_law_X2_mastOf : GoodIn wsL_law wsX2_mastOf := goodIn_ca (goodIn_r _ [388, 23, 229, 230, 231, 2, 232, 97, 98, 103, 104, 105, 517, 518, 519, 527, 528, 529, 530, 531, 532, 533, 534] (by decide +kernel) (by decide +kernel)) (goodIn_sub (fun _ h => List.mem_append_right _ h) (by decide +kernel))
set_option maxRecDepth 20000 in
theorem gL_law_X2_mastOf : GoodIn wsL_law (wsV RL 139 RX2 yX2_mastOf wsX2_mastOf) := goodIn_app (goodIn_of _ (by decide +kernel)) ggL_law_X2_mastOf
set_option maxRecDepth 20000 in
theorem ggL_law_X2_mastsOf : GoodIn wsL_law wsX2_mastsOf := goodIn_ca (goodIn_r _ [392, 23, 99, 100, 101, 2, 102, 97, 98, 103, 104, 105, 517, 518, 519, 527, 528, 529, 530, 531, 532, 533, 534] (by decide +kernel) (by decide +kernel)) (goodIn_sub (fun _ h => List.mem_append_right _ h) (by decide +kernel))
set_option maxRecDepth 20000 in
theorem gL_law_X2_mastsOf : GoodIn wsL_law (wsV RL 142 RX2 yX2_mastsOf wsX2_mastsOf) := goodIn_app (goodIn_of _ (by decide +kernel)) ggL_law_X2_mastsOf
set_option maxRecDepth 20000 in
theorem ggL_law_X2_hasVoter : GoodIn wsL_law wsX2_hasVoter := goodIn_ca (goodIn_r _ [396, 23, 229, 230, 231, 2, 232, 97, 98, 218, 219, 220, 517, 518, 519, 527, 528, 529, 530, 531, 532, 533, 534] (by decide +kernel) (by decide +kernel)) (goodIn_sub (fun _ h => List.mem_append_right _ h) (by decide +kernel))
set_option maxRecDepth 20000 in
theorem gL_law_X2_hasVoter : GoodIn wsL_law (wsV RL 145 RX2 yX2_hasVoter wsX2_hasVoter) := goodIn_app (goodIn_of _ (by decide +kernel)) ggL_law_X2_hasVoter
set_option maxRecDepth 20000 in
theorem ggL_law_X2_isGivenUp : GoodIn wsL_law wsX2_isGivenUp := goodIn_ca (goodIn_r _ [400, 23, 229, 230, 231, 2, 232, 97, 98, 218, 219, 220, 517, 518, 519, 527, 528, 529, 530, 531, 532, 533, 534] (by decide +kernel) (by decide +kernel)) (goodIn_sub (fun _ h => List.mem_append_right _ h) (by decide +kernel))
set_option maxRecDepth 20000 in
theorem gL_law_X2_isGivenUp : GoodIn wsL_law (wsV RL 148 RX2 yX2_isGivenUp wsX2_isGivenUp) := goodIn_app (goodIn_of _ (by decide +kernel)) ggL_law_X2_isGivenUp
set_option maxRecDepth 20000 in
theorem ggL_law_X2_isRung : GoodIn wsL_law wsX2_isRung := goodIn_ca (goodIn_r _ [404, 27, 99, 100, 101, 2, 102, 97, 98, 23, 218, 219, 220, 517, 518, 519, 535, 536, 537, 538, 539, 540, 541, 542, 543, 544, 527, 528, 529, 530, 531, 532, 533, 534] (by decide +kernel) (by decide +kernel)) (goodIn_sub (fun _ h => List.mem_append_right _ h) (by decide +kernel))
set_option maxRecDepth 20000 in
theorem gL_law_X2_isRung : GoodIn wsL_law (wsV RL 151 RX2 yX2_isRung wsX2_isRung) := goodIn_app (goodIn_of _ (by decide +kernel)) ggL_law_X2_isRung
set_option maxRecDepth 20000 in
theorem ggL_law_X2_trustIn : GoodIn wsL_law wsX2_trustIn := goodIn_ca (goodIn_r _ [408, 27, 99, 100, 101, 2, 102, 97, 98, 23, 346, 215, 216, 26, 217, 47, 177, 178, 179, 180, 48, 181, 182, 183, 104, 105, 517, 518, 519, 527, 528, 529, 530, 531, 532, 533, 534, 535, 536, 537, 538, 539, 540, 541, 542, 543, 544] (by decide +kernel) (by decide +kernel)) (goodIn_sub (fun _ h => List.mem_append_right _ h) (by decide +kernel))
set_option maxRecDepth 20000 in
theorem gL_law_X2_trustIn : GoodIn wsL_law (wsV RL 154 RX2 yX2_trustIn wsX2_trustIn) := goodIn_app (goodIn_of _ (by decide +kernel)) ggL_law_X2_trustIn
set_option maxRecDepth 20000 in
theorem ggL_law_X2_voters : GoodIn wsL_law wsX2_voters := goodIn_ca (goodIn_r _ [412, 23, 99, 100, 101, 2, 102, 97, 98, 347, 309, 310, 22, 311, 37, 239, 240, 241, 242, 34, 517, 518, 519, 527, 528, 529, 530, 531, 532, 533, 534] (by decide +kernel) (by decide +kernel)) (goodIn_sub (fun _ h => List.mem_append_right _ h) (by decide +kernel))
set_option maxRecDepth 20000 in
theorem gL_law_X2_voters : GoodIn wsL_law (wsV RL 155 RX2 yX2_voters wsX2_voters) := goodIn_app (goodIn_of _ (by decide +kernel)) ggL_law_X2_voters
set_option maxRecDepth 20000 in
theorem ggL_law_X2_votesForLost : GoodIn wsL_law wsX2_votesForLost := goodIn_ca (goodIn_r _ [416, 23, 99, 100, 101, 2, 102, 97, 98, 235, 236, 237, 22, 238, 38, 239, 240, 241, 242, 34, 517, 518, 519, 527, 528, 529, 530, 531, 532, 533, 534] (by decide +kernel) (by decide +kernel)) (goodIn_sub (fun _ h => List.mem_append_right _ h) (by decide +kernel))
set_option maxRecDepth 20000 in
theorem gL_law_X2_votesForLost : GoodIn wsL_law (wsV RL 158 RX2 yX2_votesForLost wsX2_votesForLost) := goodIn_app (goodIn_of _ (by decide +kernel)) ggL_law_X2_votesForLost
set_option maxRecDepth 20000 in
theorem ggL_law_X2_votesMissing : GoodIn wsL_law wsX2_votesMissing := goodIn_ca (goodIn_r _ [420, 23, 99, 100, 101, 2, 102, 97, 98, 421, 304, 305, 22, 306, 307, 5, 6, 7, 308, 309, 310, 311, 37, 239, 240, 241, 242, 34, 312, 236, 237, 238, 38, 517, 518, 519, 527, 528, 529, 530, 531, 532, 533, 534] (by decide +kernel) (by decide +kernel)) (goodIn_sub (fun _ h => List.mem_append_right _ h) (by decide +kernel))
set_option maxRecDepth 20000 in
theorem gL_law_X2_votesMissing : GoodIn wsL_law (wsV RL 161 RX2 yX2_votesMissing wsX2_votesMissing) := goodIn_app (goodIn_of _ (by decide +kernel)) ggL_law_X2_votesMissing
set_option maxRecDepth 20000 in
theorem ggL_law_X2_watchers : GoodIn wsL_law wsX2_watchers := goodIn_r _ [425, 23, 517, 518, 519, 527, 528, 529, 530, 531, 532, 533, 534] (by decide +kernel) (by decide +kernel)
set_option maxRecDepth 20000 in
theorem gL_law_X2_watchers : GoodIn wsL_law (wsV RL 169 RX2 yX2_watchers wsX2_watchers) := goodIn_app (goodIn_of _ (by decide +kernel)) ggL_law_X2_watchers
set_option maxRecDepth 20000 in
theorem ggL_law_X2_trustOf : GoodIn wsL_law wsX2_trustOf := goodIn_ca (goodIn_r _ [429, 27, 205, 206, 207, 2, 208, 97, 98, 23, 103, 104, 105, 517, 518, 519, 535, 536, 537, 538, 539, 540, 541, 542, 543, 544, 527, 528, 529, 530, 531, 532, 533, 534] (by decide +kernel) (by decide +kernel)) (goodIn_sub (fun _ h => List.mem_append_right _ h) (by decide +kernel))
set_option maxRecDepth 20000 in
theorem gL_law_X2_trustOf : GoodIn wsL_law (wsV RL 172 RX2 yX2_trustOf wsX2_trustOf) := goodIn_app (goodIn_of _ (by decide +kernel)) ggL_law_X2_trustOf
set_option maxRecDepth 100000 in
theorem ggL_law_X2_nightsUntilDark_wsX2_nightsUntilDark_r1 : GoodIn wsL_law wsX2_nightsUntilDark_r1 := goodIn_r _ [28, 27, 434, 435, 436, 26, 437, 43, 44, 45, 46, 47, 48, 272, 162, 289, 438, 2, 439, 440, 441, 327, 328, 329] (by decide +kernel) (by decide +kernel)
set_option maxRecDepth 100000 in
theorem ggL_law_X2_nightsUntilDark_wsX2_nightsUntilDark_r2 : GoodIn wsL_law wsX2_nightsUntilDark_r2 := goodIn_r _ [330, 331, 332, 333, 334, 49, 154, 155, 156, 22, 157, 34, 294, 107, 108, 109, 104, 105, 442, 269, 270, 271, 273, 274] (by decide +kernel) (by decide +kernel)
set_option maxRecDepth 100000 in
theorem ggL_law_X2_nightsUntilDark_wsX2_nightsUntilDark_r3 : GoodIn wsL_law wsX2_nightsUntilDark_r3 := goodIn_r _ [275, 276, 277, 278, 279, 280, 281, 282, 283, 284, 5, 6, 7, 91, 92, 285, 286, 287, 288, 219, 220, 214, 215, 216] (by decide +kernel) (by decide +kernel)
set_option maxRecDepth 100000 in
theorem ggL_law_X2_nightsUntilDark_wsX2_nightsUntilDark_r4 : GoodIn wsL_law wsX2_nightsUntilDark_r4 := goodIn_r _ [217, 177, 178, 179, 180, 181, 182, 183, 115, 116, 290, 291, 292, 293, 295, 296, 297, 298, 158, 159, 160, 161, 299, 300] (by decide +kernel) (by decide +kernel)
set_option maxRecDepth 100000 in
theorem ggL_law_X2_nightsUntilDark_wsX2_nightsUntilDark_r5 : GoodIn wsL_law wsX2_nightsUntilDark_r5 := goodIn_r _ [301, 302, 303, 304, 305, 306, 307, 308, 309, 310, 311, 37, 239, 240, 241, 242, 312, 236, 237, 238, 38, 313, 185, 186] (by decide +kernel) (by decide +kernel)
set_option maxRecDepth 100000 in
theorem ggL_law_X2_nightsUntilDark_wsX2_nightsUntilDark_r6 : GoodIn wsL_law wsX2_nightsUntilDark_r6 := goodIn_r _ [187] (by decide +kernel) (by decide +kernel)
set_option maxRecDepth 100000 in
theorem ggL_law_X2_nightsUntilDark_wsX20 : GoodIn wsL_law wsX20 := goodIn_r _ [517, 518, 519] (by decide +kernel) (by decide +kernel)
set_option maxRecDepth 100000 in
theorem ggL_law_X2_nightsUntilDark_wsX00 : GoodIn wsL_law wsX00 := goodIn_r _ [535, 536, 537, 538, 539, 540, 541, 542, 543, 544] (by decide +kernel) (by decide +kernel)
set_option maxRecDepth 100000 in
theorem ggL_law_X2_nightsUntilDark_wsX10 : GoodIn wsL_law wsX10 := goodIn_r _ [527, 528, 529, 530, 531, 532, 533, 534] (by decide +kernel) (by decide +kernel)
set_option maxRecDepth 100000 in
theorem ggL_law_X2_nightsUntilDark_h : GoodIn wsL_law [.code yX2_nightsUntilDark cX2_nightsUntilDark 2 (some .int)] := goodIn_r _ [433] (by decide +kernel) (by decide +kernel)
set_option maxRecDepth 20000 in
theorem ggL_law_X2_nightsUntilDark : GoodIn wsL_law wsX2_nightsUntilDark := (fun w h => (List.mem_cons.mp h).elim (fun e => ggL_law_X2_nightsUntilDark_h w (List.mem_singleton.mpr e)) (fun h => (fun w h => (List.mem_append.mp h).elim ((fun w h => (List.mem_append.mp h).elim ((fun w h => (List.mem_append.mp h).elim ((fun w h => (List.mem_append.mp h).elim (ggL_law_X2_nightsUntilDark_wsX2_nightsUntilDark_r1 w) ((fun w h => (List.mem_append.mp h).elim (ggL_law_X2_nightsUntilDark_wsX2_nightsUntilDark_r2 w) ((fun w h => (List.mem_append.mp h).elim (ggL_law_X2_nightsUntilDark_wsX2_nightsUntilDark_r3 w) ((fun w h => (List.mem_append.mp h).elim (ggL_law_X2_nightsUntilDark_wsX2_nightsUntilDark_r4 w) ((fun w h => (List.mem_append.mp h).elim (ggL_law_X2_nightsUntilDark_wsX2_nightsUntilDark_r5 w) (ggL_law_X2_nightsUntilDark_wsX2_nightsUntilDark_r6 w)) w)) w)) w)) w)) w) (ggL_law_X2_nightsUntilDark_wsX20 w)) w) (ggL_law_X2_nightsUntilDark_wsX00 w)) w) (ggL_law_X2_nightsUntilDark_wsX10 w)) w h))
set_option maxRecDepth 20000 in
theorem gL_law_X2_nightsUntilDark : GoodIn wsL_law (wsV RL 175 RX2 yX2_nightsUntilDark wsX2_nightsUntilDark) := goodIn_app (goodIn_of _ (by decide +kernel)) ggL_law_X2_nightsUntilDark
set_option maxRecDepth 20000 in
theorem ggL_law_X2_darkCandles : GoodIn wsL_law wsX2_darkCandles := goodIn_r _ [446, 27, 327, 328, 329, 26, 330, 331, 332, 333, 334, 49, 46, 154, 155, 156, 22, 157, 34, 294, 107, 108, 109, 43, 104, 2, 105, 517, 518, 519, 535, 536, 537, 538, 539, 540, 541, 542, 543, 544, 527, 528, 529, 530, 531, 532, 533, 534] (by decide +kernel) (by decide +kernel)
set_option maxRecDepth 20000 in
theorem gL_law_X2_darkCandles : GoodIn wsL_law (wsV RL 178 RX2 yX2_darkCandles wsX2_darkCandles) := goodIn_app (goodIn_of _ (by decide +kernel)) ggL_law_X2_darkCandles
set_option maxRecDepth 20000 in
theorem ggL_law_X2_namesOnWall : GoodIn wsL_law wsX2_namesOnWall := goodIn_r _ [450, 27, 335, 336, 337, 26, 338, 49, 154, 155, 156, 22, 157, 34, 294, 107, 108, 109, 43, 104, 2, 105, 517, 518, 519, 535, 536, 537, 538, 539, 540, 541, 542, 543, 544, 527, 528, 529, 530, 531, 532, 533, 534] (by decide +kernel) (by decide +kernel)
set_option maxRecDepth 20000 in
theorem gL_law_X2_namesOnWall : GoodIn wsL_law (wsV RL 181 RX2 yX2_namesOnWall wsX2_namesOnWall) := goodIn_app (goodIn_of _ (by decide +kernel)) ggL_law_X2_namesOnWall
set_option maxRecDepth 20000 in
theorem ggL_law_L_below : GoodIn wsL_law wsL_below := goodIn_r _ [73, 74] (by decide +kernel) (by decide +kernel)
set_option maxRecDepth 20000 in
theorem gL_law_L_below : GoodIn wsL_law (va_wsS RL 15 yL_below wsL_below) := goodIn_app (goodIn_of _ (by decide +kernel)) ggL_law_L_below
set_option maxRecDepth 20000 in
theorem ggL_law_X3_isSighted : GoodIn wsL_law wsX3_isSighted := goodIn_r _ [141, 66, 520, 521, 522, 523, 524, 525, 526] (by decide +kernel) (by decide +kernel)
set_option maxRecDepth 20000 in
theorem gL_law_X3_isSighted : GoodIn wsL_law (wsV RL 96 RX3 yX3_isSighted wsX3_isSighted) := goodIn_app (goodIn_of _ (by decide +kernel)) ggL_law_X3_isSighted
set_option maxRecDepth 20000 in
theorem ggL_law_X2_wouldRing : GoodIn wsL_law wsX2_wouldRing := goodIn_ca (goodIn_ca (goodIn_r _ [454, 27, 201, 202, 203, 2, 204, 84, 85, 205, 206, 207, 208, 97, 98, 23, 99, 100, 101, 102, 106, 107, 108, 26, 109, 43, 104, 105, 209, 178, 179, 180, 48, 181, 182, 183, 218, 219, 220, 346, 215, 216, 217, 47, 177, 103, 517, 518, 519, 535, 536, 537, 538, 539, 540, 541, 542, 543, 544, 527, 528, 529, 530, 531, 532, 533, 534] (by decide +kernel) (by decide +kernel)) (goodIn_sub (fun _ h => List.mem_append_left _ (List.mem_append_right _ h)) (by decide +kernel))) (goodIn_sub (fun _ h => List.mem_append_right _ h) (by decide +kernel))
set_option maxRecDepth 20000 in
theorem gL_law_X2_wouldRing : GoodIn wsL_law (wsV RL 184 RX2 yX2_wouldRing wsX2_wouldRing) := goodIn_app (goodIn_of _ (by decide +kernel)) ggL_law_X2_wouldRing
set_option maxRecDepth 20000 in
theorem ggL_law_X2_sight : GoodIn wsL_law wsX2_sight := goodIn_ca (goodIn_ca (goodIn_r _ [200, 27, 201, 202, 203, 2, 204, 84, 85, 205, 206, 207, 208, 97, 98, 23, 99, 100, 101, 102, 106, 107, 108, 26, 109, 43, 104, 105, 209, 178, 179, 180, 48, 181, 182, 183, 210, 211, 212, 213, 45, 91, 92, 214, 215, 216, 217, 47, 177, 115, 116, 218, 219, 220, 517, 518, 519, 535, 536, 537, 538, 539, 540, 541, 542, 543, 544, 527, 528, 529, 530, 531, 532, 533, 534] (by decide +kernel) (by decide +kernel)) (goodIn_sub (fun _ h => List.mem_append_left _ (List.mem_append_right _ h)) (by decide +kernel))) (goodIn_sub (fun _ h => List.mem_append_right _ h) (by decide +kernel))
set_option maxRecDepth 20000 in
theorem gL_law_X2_sight : GoodIn wsL_law (wsV RL 74 RX2 yX2_sight wsX2_sight) := goodIn_app (goodIn_of _ (by decide +kernel)) ggL_law_X2_sight
set_option maxRecDepth 20000 in
theorem ggL_law_X3_more : GoodIn wsL_law wsX3_more := goodIn_r _ [77, 62] (by decide +kernel) (by decide +kernel)
set_option maxRecDepth 20000 in
theorem gL_law_X3_more : GoodIn wsL_law (va_wsS RL 38 yX3_more wsX3_more) := goodIn_app (goodIn_of _ (by decide +kernel)) ggL_law_X3_more
set_option maxRecDepth 100000 in
theorem ggL_law_X2_waxWanted_wsX2_waxWanted_r1 : GoodIn wsL_law wsX2_waxWanted_r1 := goodIn_r _ [261, 262, 2, 263, 82, 83, 459, 460, 461, 462, 28, 27, 434, 435, 436, 26, 437, 43, 44, 45, 46, 47, 48, 272] (by decide +kernel) (by decide +kernel)
set_option maxRecDepth 100000 in
theorem ggL_law_X2_waxWanted_wsX2_waxWanted_r2 : GoodIn wsL_law wsX2_waxWanted_r2 := goodIn_r _ [162, 289, 438, 439, 440, 441, 442, 269, 270, 271, 273, 274, 275, 276, 277, 278, 279, 280, 281, 282, 283, 284, 5, 6] (by decide +kernel) (by decide +kernel)
set_option maxRecDepth 100000 in
theorem ggL_law_X2_waxWanted_wsX2_waxWanted_r3 : GoodIn wsL_law wsX2_waxWanted_r3 := goodIn_r _ [7, 104, 105, 91, 92, 285, 286, 287, 288, 219, 220, 214, 215, 216, 217, 177, 178, 179, 180, 181, 182, 183, 115, 116] (by decide +kernel) (by decide +kernel)
set_option maxRecDepth 100000 in
theorem ggL_law_X2_waxWanted_wsX2_waxWanted_r4 : GoodIn wsL_law wsX2_waxWanted_r4 := goodIn_r _ [290, 291, 292, 293, 49, 154, 155, 156, 22, 157, 34, 294, 107, 108, 109, 295, 296, 297, 298, 158, 159, 160, 161, 299] (by decide +kernel) (by decide +kernel)
set_option maxRecDepth 100000 in
theorem ggL_law_X2_waxWanted_wsX2_waxWanted_r5 : GoodIn wsL_law wsX2_waxWanted_r5 := goodIn_r _ [300, 301, 302, 303, 304, 305, 306, 307, 308, 309, 310, 311, 37, 239, 240, 241, 242, 312, 236, 237, 238, 38, 313, 185] (by decide +kernel) (by decide +kernel)
set_option maxRecDepth 100000 in
theorem ggL_law_X2_waxWanted_wsX2_waxWanted_r6 : GoodIn wsL_law wsX2_waxWanted_r6 := goodIn_r _ [186, 187, 327, 328, 329, 330, 331, 332, 333, 334] (by decide +kernel) (by decide +kernel)
set_option maxRecDepth 100000 in
theorem ggL_law_X2_waxWanted_wsX20 : GoodIn wsL_law wsX20 := goodIn_r _ [517, 518, 519] (by decide +kernel) (by decide +kernel)
set_option maxRecDepth 100000 in
theorem ggL_law_X2_waxWanted_wsX00 : GoodIn wsL_law wsX00 := goodIn_r _ [535, 536, 537, 538, 539, 540, 541, 542, 543, 544] (by decide +kernel) (by decide +kernel)
set_option maxRecDepth 100000 in
theorem ggL_law_X2_waxWanted_wsX10 : GoodIn wsL_law wsX10 := goodIn_r _ [527, 528, 529, 530, 531, 532, 533, 534] (by decide +kernel) (by decide +kernel)
set_option maxRecDepth 100000 in
theorem ggL_law_X2_waxWanted_h : GoodIn wsL_law [.code yX2_waxWanted cX2_waxWanted 4 (some .int)] := goodIn_r _ [458] (by decide +kernel) (by decide +kernel)
set_option maxRecDepth 20000 in
theorem ggL_law_X2_waxWanted : GoodIn wsL_law wsX2_waxWanted := goodIn_ca ((fun w h => (List.mem_cons.mp h).elim (fun e => ggL_law_X2_waxWanted_h w (List.mem_singleton.mpr e)) (fun h => (fun w h => (List.mem_append.mp h).elim ((fun w h => (List.mem_append.mp h).elim ((fun w h => (List.mem_append.mp h).elim ((fun w h => (List.mem_append.mp h).elim (ggL_law_X2_waxWanted_wsX2_waxWanted_r1 w) ((fun w h => (List.mem_append.mp h).elim (ggL_law_X2_waxWanted_wsX2_waxWanted_r2 w) ((fun w h => (List.mem_append.mp h).elim (ggL_law_X2_waxWanted_wsX2_waxWanted_r3 w) ((fun w h => (List.mem_append.mp h).elim (ggL_law_X2_waxWanted_wsX2_waxWanted_r4 w) ((fun w h => (List.mem_append.mp h).elim (ggL_law_X2_waxWanted_wsX2_waxWanted_r5 w) (ggL_law_X2_waxWanted_wsX2_waxWanted_r6 w)) w)) w)) w)) w)) w) (ggL_law_X2_waxWanted_wsX20 w)) w) (ggL_law_X2_waxWanted_wsX00 w)) w) (ggL_law_X2_waxWanted_wsX10 w)) w h))) (goodIn_sub (fun _ h => List.mem_append_left _ (List.mem_append_left _ (List.mem_append_right _ h))) (by decide +kernel))
set_option maxRecDepth 20000 in
theorem gL_law_X2_waxWanted : GoodIn wsL_law (wsV RL 187 RX2 yX2_waxWanted wsX2_waxWanted) := goodIn_app (goodIn_of _ (by decide +kernel)) ggL_law_X2_waxWanted
set_option maxRecDepth 20000 in
theorem ggL_law_X2_buyWax : GoodIn wsL_law wsX2_buyWax := goodIn_ca (goodIn_r _ [130, 82, 83, 27, 517, 518, 519, 535, 536, 537, 538, 539, 540, 541, 542, 543, 544] (by decide +kernel) (by decide +kernel)) (goodIn_sub (fun _ h => List.mem_append_left _ (List.mem_append_left _ (List.mem_append_right _ h))) (by decide +kernel))
set_option maxRecDepth 20000 in
theorem gL_law_X2_buyWax : GoodIn wsL_law (wsV RL 54 RX2 yX2_buyWax wsX2_buyWax) := goodIn_app (goodIn_of _ (by decide +kernel)) ggL_law_X2_buyWax
set_option maxRecDepth 20000 in
theorem ggL_law_X2_bellsUnrung : GoodIn wsL_law wsX2_bellsUnrung := goodIn_r _ [466, 27, 517, 518, 519, 535, 536, 537, 538, 539, 540, 541, 542, 543, 544] (by decide +kernel) (by decide +kernel)
set_option maxRecDepth 20000 in
theorem gL_law_X2_bellsUnrung : GoodIn wsL_law (wsV RL 190 RX2 yX2_bellsUnrung wsX2_bellsUnrung) := goodIn_app (goodIn_of _ (by decide +kernel)) ggL_law_X2_bellsUnrung
set_option maxRecDepth 100000 in
theorem ggL_law_X2_burnNights_wsX2_burnNights_r1 : GoodIn wsL_law wsX2_burnNights_r1 := goodIn_r _ [27, 261, 262, 2, 263, 82, 83, 264, 265, 266, 26, 267, 268, 269, 270, 271, 272, 273, 274, 275, 276, 48, 277, 278] (by decide +kernel) (by decide +kernel)
set_option maxRecDepth 100000 in
theorem ggL_law_X2_burnNights_wsX2_burnNights_r2 : GoodIn wsL_law wsX2_burnNights_r2 := goodIn_r _ [279, 280, 281, 282, 283, 47, 284, 5, 6, 7, 104, 105, 91, 92, 285, 286, 287, 288, 45, 289, 219, 220, 214, 215] (by decide +kernel) (by decide +kernel)
set_option maxRecDepth 100000 in
theorem ggL_law_X2_burnNights_wsX2_burnNights_r3 : GoodIn wsL_law wsX2_burnNights_r3 := goodIn_r _ [216, 217, 177, 178, 179, 180, 181, 182, 183, 115, 116, 290, 291, 292, 293, 49, 46, 154, 155, 156, 22, 157, 34, 294] (by decide +kernel) (by decide +kernel)
