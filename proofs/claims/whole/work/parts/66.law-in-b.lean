set_option maxRecDepth 100000 in
set_option maxHeartbeats 4000000 in
theorem wsL_in_16 : ∀ w ∈ wsL_law_r16, w ∈ lw_tbl := fun w h => (goodIn_p wsL_law_r16 [805, 809, 812, 816, 820, 824] (by decide +kernel) (by decide +kernel) w h).1

set_option maxRecDepth 100000 in
set_option maxHeartbeats 4000000 in
theorem wsL_in_17 : ∀ w ∈ wsL_law_r17, w ∈ lw_tbl := fun w h => (goodIn_p wsL_law_r17 [828, 832, 420, 424, 836] (by decide +kernel) (by decide +kernel) w h).1

set_option maxRecDepth 100000 in
set_option maxHeartbeats 4000000 in
theorem wsL_in_18 : ∀ w ∈ wsL_law_r18, w ∈ lw_tbl := fun w h => (goodIn_p wsL_law_r18 [840, 429, 434, 844, 438] (by decide +kernel) (by decide +kernel) w h).1

set_option maxRecDepth 100000 in
set_option maxHeartbeats 4000000 in
theorem wsL_in_19 : ∀ w ∈ wsL_law_r19, w ∈ lw_tbl := fun w h => (goodIn_p wsL_law_r19 [848, 442, 446, 449, 453, 852, 855] (by decide +kernel) (by decide +kernel) w h).1

set_option maxRecDepth 100000 in
set_option maxHeartbeats 4000000 in
theorem wsL_in_20 : ∀ w ∈ wsL_law_r20, w ∈ lw_tbl := fun w h => (goodIn_p wsL_law_r20 [457, 460, 463, 467, 471, 859] (by decide +kernel) (by decide +kernel) w h).1

set_option maxRecDepth 100000 in
set_option maxHeartbeats 4000000 in
theorem wsL_in_21 : ∀ w ∈ wsL_law_r21, w ∈ lw_tbl := fun w h => (goodIn_p wsL_law_r21 [863, 475, 479, 483, 488] (by decide +kernel) (by decide +kernel) w h).1

set_option maxRecDepth 100000 in
set_option maxHeartbeats 4000000 in
theorem wsL_in_22 : ∀ w ∈ wsL_law_r22, w ∈ lw_tbl := fun w h => (goodIn_p wsL_law_r22 [493, 867, 497, 500, 503] (by decide +kernel) (by decide +kernel) w h).1

set_option maxRecDepth 100000 in
set_option maxHeartbeats 4000000 in
theorem wsL_in_23 : ∀ w ∈ wsL_law_r23, w ∈ lw_tbl := fun w h => (goodIn_p wsL_law_r23 [871, 511, 514, 517, 520, 523, 876] (by decide +kernel) (by decide +kernel) w h).1

set_option maxRecDepth 100000 in
set_option maxHeartbeats 4000000 in
theorem wsL_in_24 : ∀ w ∈ wsL_law_r24, w ∈ lw_tbl := fun w h => (goodIn_p wsL_law_r24 [528, 531, 535, 880, 540] (by decide +kernel) (by decide +kernel) w h).1

set_option maxRecDepth 100000 in
set_option maxHeartbeats 4000000 in
theorem wsL_in_25 : ∀ w ∈ wsL_law_r25, w ∈ lw_tbl := fun w h => (goodIn_p wsL_law_r25 [544, 884, 548, 888, 552, 556] (by decide +kernel) (by decide +kernel) w h).1

set_option maxRecDepth 100000 in
set_option maxHeartbeats 4000000 in
theorem wsL_in_26 : ∀ w ∈ wsL_law_r26, w ∈ lw_tbl := fun w h => (goodIn_p wsL_law_r26 [560, 565, 892, 896, 899, 569] (by decide +kernel) (by decide +kernel) w h).1

set_option maxRecDepth 100000 in
set_option maxHeartbeats 4000000 in
theorem wsL_in_27 : ∀ w ∈ wsL_law_r27, w ∈ lw_tbl := fun w h => (goodIn_p wsL_law_r27 [573, 578, 583, 903, 587] (by decide +kernel) (by decide +kernel) w h).1

set_option maxRecDepth 100000 in
set_option maxHeartbeats 4000000 in
theorem wsL_in_28 : ∀ w ∈ wsL_law_r28, w ∈ lw_tbl := fun w h => (goodIn_p wsL_law_r28 [591, 595, 599, 907, 604] (by decide +kernel) (by decide +kernel) w h).1

set_option maxRecDepth 100000 in
set_option maxHeartbeats 4000000 in
theorem wsL_in_29 : ∀ w ∈ wsL_law_r29, w ∈ lw_tbl := fun w h => (goodIn_p wsL_law_r29 [609, 615, 619, 624, 628] (by decide +kernel) (by decide +kernel) w h).1

set_option maxRecDepth 100000 in
set_option maxHeartbeats 4000000 in
theorem wsL_in_30 : ∀ w ∈ wsL_law_r30, w ∈ lw_tbl := fun w h => (goodIn_p wsL_law_r30 [631, 635, 911, 639, 643, 647] (by decide +kernel) (by decide +kernel) w h).1
