set_option maxRecDepth 100000 in
set_option maxHeartbeats 4000000 in
theorem wsL_in_1 : ∀ w ∈ wsL_law_r1, w ∈ lw_tbl := fun w h => (goodIn_p wsL_law_r1 [50, 53] (by decide +kernel) (by decide +kernel) w h).1

set_option maxRecDepth 100000 in
set_option maxHeartbeats 4000000 in
theorem wsL_in_2 : ∀ w ∈ wsL_law_r2, w ∈ lw_tbl := fun w h => (goodIn_p wsL_law_r2 [58] (by decide +kernel) (by decide +kernel) w h).1

set_option maxRecDepth 100000 in
set_option maxHeartbeats 4000000 in
theorem wsL_in_3 : ∀ w ∈ wsL_law_r3, w ∈ lw_tbl := fun w h => (goodIn_p wsL_law_r3 [64, 112, 128] (by decide +kernel) (by decide +kernel) w h).1

set_option maxRecDepth 100000 in
set_option maxHeartbeats 4000000 in
theorem wsL_in_4 : ∀ w ∈ wsL_law_r4, w ∈ lw_tbl := fun w h => (goodIn_p wsL_law_r4 [160, 176, 194, 204] (by decide +kernel) (by decide +kernel) w h).1

set_option maxRecDepth 100000 in
set_option maxHeartbeats 4000000 in
theorem wsL_in_5 : ∀ w ∈ wsL_law_r5, w ∈ lw_tbl := fun w h => (goodIn_p wsL_law_r5 [677] (by decide +kernel) (by decide +kernel) w h).1

set_option maxRecDepth 100000 in
set_option maxHeartbeats 4000000 in
theorem wsL_in_6 : ∀ w ∈ wsL_law_r6, w ∈ lw_tbl := fun w h => (goodIn_p wsL_law_r6 [254, 257, 261, 265, 269, 273] (by decide +kernel) (by decide +kernel) w h).1

set_option maxRecDepth 100000 in
set_option maxHeartbeats 4000000 in
theorem wsL_in_7 : ∀ w ∈ wsL_law_r7, w ∈ lw_tbl := fun w h => (goodIn_p wsL_law_r7 [277, 280, 752, 755, 759] (by decide +kernel) (by decide +kernel) w h).1

set_option maxRecDepth 100000 in
set_option maxHeartbeats 4000000 in
theorem wsL_in_8 : ∀ w ∈ wsL_law_r8, w ∈ lw_tbl := fun w h => (goodIn_p wsL_law_r8 [762, 765, 287, 293, 298, 769] (by decide +kernel) (by decide +kernel) w h).1

set_option maxRecDepth 100000 in
set_option maxHeartbeats 4000000 in
theorem wsL_in_9 : ∀ w ∈ wsL_law_r9, w ∈ lw_tbl := fun w h => (goodIn_p wsL_law_r9 [773, 777, 302, 781, 306] (by decide +kernel) (by decide +kernel) w h).1

set_option maxRecDepth 100000 in
set_option maxHeartbeats 4000000 in
theorem wsL_in_10 : ∀ w ∈ wsL_law_r10, w ∈ lw_tbl := fun w h => (goodIn_p wsL_law_r10 [310, 785, 314, 789, 318] (by decide +kernel) (by decide +kernel) w h).1

set_option maxRecDepth 100000 in
set_option maxHeartbeats 4000000 in
theorem wsL_in_11 : ∀ w ∈ wsL_law_r11, w ∈ lw_tbl := fun w h => (goodIn_p wsL_law_r11 [322, 326, 330, 333, 336, 340, 344] (by decide +kernel) (by decide +kernel) w h).1

set_option maxRecDepth 100000 in
set_option maxHeartbeats 4000000 in
theorem wsL_in_12 : ∀ w ∈ wsL_law_r12, w ∈ lw_tbl := fun w h => (goodIn_p wsL_law_r12 [348, 793, 797, 352, 356] (by decide +kernel) (by decide +kernel) w h).1

set_option maxRecDepth 100000 in
set_option maxHeartbeats 4000000 in
theorem wsL_in_13 : ∀ w ∈ wsL_law_r13, w ∈ lw_tbl := fun w h => (goodIn_p wsL_law_r13 [360, 364, 368, 373] (by decide +kernel) (by decide +kernel) w h).1

set_option maxRecDepth 100000 in
set_option maxHeartbeats 4000000 in
theorem wsL_in_14 : ∀ w ∈ wsL_law_r14, w ∈ lw_tbl := fun w h => (goodIn_p wsL_law_r14 [377, 381, 385, 389, 393, 396] (by decide +kernel) (by decide +kernel) w h).1

set_option maxRecDepth 100000 in
set_option maxHeartbeats 4000000 in
theorem wsL_in_15 : ∀ w ∈ wsL_law_r15, w ∈ lw_tbl := fun w h => (goodIn_p wsL_law_r15 [402, 406, 411, 415, 801] (by decide +kernel) (by decide +kernel) w h).1
