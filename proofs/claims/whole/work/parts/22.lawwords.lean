set_option maxRecDepth 20000 in
theorem inr_1 : ∀ w ∈ wsL_law_r1, w ∈ lw_tbl := fun w h => ((goodIn_p wsL_law_r1 [62, 65, 70] (by decide +kernel) (by decide +kernel)) w h).1
set_option maxRecDepth 20000 in
theorem inr_2 : ∀ w ∈ wsL_law_r2, w ∈ lw_tbl := fun w h => ((goodIn_p wsL_law_r2 [76, 99] (by decide +kernel) (by decide +kernel)) w h).1
set_option maxRecDepth 20000 in
theorem inr_3 : ∀ w ∈ wsL_law_r3, w ∈ lw_tbl := fun w h => ((goodIn_p wsL_law_r3 [105, 192, 589] (by decide +kernel) (by decide +kernel)) w h).1
set_option maxRecDepth 20000 in
theorem inr_4 : ∀ w ∈ wsL_law_r4, w ∈ lw_tbl := fun w h => ((goodIn_p wsL_law_r4 [220, 224, 228, 231, 235] (by decide +kernel) (by decide +kernel)) w h).1
set_option maxRecDepth 20000 in
theorem inr_5 : ∀ w ∈ wsL_law_r5, w ∈ lw_tbl := fun w h => ((goodIn_p wsL_law_r5 [608, 611, 240, 244, 248] (by decide +kernel) (by decide +kernel)) w h).1
set_option maxRecDepth 20000 in
theorem inr_6 : ∀ w ∈ wsL_law_r6, w ∈ lw_tbl := fun w h => ((goodIn_p wsL_law_r6 [252, 256, 260, 264, 268, 272] (by decide +kernel) (by decide +kernel)) w h).1
set_option maxRecDepth 20000 in
theorem inr_7 : ∀ w ∈ wsL_law_r7, w ∈ lw_tbl := fun w h => ((goodIn_p wsL_law_r7 [275, 280, 284, 287, 615, 619] (by decide +kernel) (by decide +kernel)) w h).1
set_option maxRecDepth 20000 in
theorem inr_8 : ∀ w ∈ wsL_law_r8, w ∈ lw_tbl := fun w h => ((goodIn_p wsL_law_r8 [623, 627, 631, 635, 639, 643] (by decide +kernel) (by decide +kernel)) w h).1
set_option maxRecDepth 20000 in
theorem inr_9 : ∀ w ∈ wsL_law_r9, w ∈ lw_tbl := fun w h => ((goodIn_p wsL_law_r9 [291, 296, 301, 651, 647, 305] (by decide +kernel) (by decide +kernel)) w h).1
set_option maxRecDepth 20000 in
theorem inr_10 : ∀ w ∈ wsL_law_r10, w ∈ lw_tbl := fun w h => ((goodIn_p wsL_law_r10 [309, 656, 313, 317, 321, 660] (by decide +kernel) (by decide +kernel)) w h).1
set_option maxRecDepth 20000 in
theorem inr_11 : ∀ w ∈ wsL_law_r11, w ∈ lw_tbl := fun w h => ((goodIn_p wsL_law_r11 [664, 325, 329, 332, 668] (by decide +kernel) (by decide +kernel)) w h).1
set_option maxRecDepth 20000 in
theorem inr_12 : ∀ w ∈ wsL_law_r12, w ∈ lw_tbl := fun w h => ((goodIn_p wsL_law_r12 [672, 339, 344, 348, 353, 357] (by decide +kernel) (by decide +kernel)) w h).1
set_option maxRecDepth 20000 in
theorem inr_13 : ∀ w ∈ wsL_law_r13, w ∈ lw_tbl := fun w h => ((goodIn_p wsL_law_r13 [368, 361, 365, 372, 376, 380] (by decide +kernel) (by decide +kernel)) w h).1
set_option maxRecDepth 20000 in
theorem inr_14 : ∀ w ∈ wsL_law_r14, w ∈ lw_tbl := fun w h => ((goodIn_p wsL_law_r14 [384, 388, 393, 397, 401] (by decide +kernel) (by decide +kernel)) w h).1
set_option maxRecDepth 20000 in
theorem inr_15 : ∀ w ∈ wsL_law_r15, w ∈ lw_tbl := fun w h => ((goodIn_p wsL_law_r15 [676, 679, 683, 687, 691, 695, 699] (by decide +kernel) (by decide +kernel)) w h).1
set_option maxRecDepth 20000 in
theorem inr_16 : ∀ w ∈ wsL_law_r16, w ∈ lw_tbl := fun w h => ((goodIn_p wsL_law_r16 [703, 707, 711, 715, 719, 723] (by decide +kernel) (by decide +kernel)) w h).1
set_option maxRecDepth 20000 in
theorem inr_17 : ∀ w ∈ wsL_law_r17, w ∈ lw_tbl := fun w h => ((goodIn_p wsL_law_r17 [727, 405, 731, 409, 735, 413] (by decide +kernel) (by decide +kernel)) w h).1
set_option maxRecDepth 20000 in
theorem inr_18 : ∀ w ∈ wsL_law_r18, w ∈ lw_tbl := fun w h => ((goodIn_p wsL_law_r18 [416, 420, 739, 742, 424, 746] (by decide +kernel) (by decide +kernel)) w h).1
set_option maxRecDepth 20000 in
theorem inr_19 : ∀ w ∈ wsL_law_r19, w ∈ lw_tbl := fun w h => ((goodIn_p wsL_law_r19 [428, 432, 436, 750, 441, 754] (by decide +kernel) (by decide +kernel)) w h).1
set_option maxRecDepth 20000 in
theorem inr_20 : ∀ w ∈ wsL_law_r20, w ∈ lw_tbl := fun w h => ((goodIn_p wsL_law_r20 [445, 758, 450, 762, 455] (by decide +kernel) (by decide +kernel)) w h).1
set_option maxRecDepth 20000 in
theorem inr_21 : ∀ w ∈ wsL_law_r21, w ∈ lw_tbl := fun w h => ((goodIn_p wsL_law_r21 [459, 766, 463, 467, 770, 774] (by decide +kernel) (by decide +kernel)) w h).1
set_option maxRecDepth 20000 in
theorem inr_22 : ∀ w ∈ wsL_law_r22, w ∈ lw_tbl := fun w h => ((goodIn_p wsL_law_r22 [472, 476, 481, 486, 490] (by decide +kernel) (by decide +kernel)) w h).1
set_option maxRecDepth 20000 in
theorem inr_23 : ∀ w ∈ wsL_law_r23, w ∈ lw_tbl := fun w h => ((goodIn_p wsL_law_r23 [495, 499, 778, 782, 786, 790] (by decide +kernel) (by decide +kernel)) w h).1
set_option maxRecDepth 20000 in
theorem inr_24 : ∀ w ∈ wsL_law_r24, w ∈ lw_tbl := fun w h => ((goodIn_p wsL_law_r24 [794, 798, 802, 504, 508, 806] (by decide +kernel) (by decide +kernel)) w h).1
set_option maxRecDepth 20000 in
theorem inr_25 : ∀ w ∈ wsL_law_r25, w ∈ lw_tbl := fun w h => ((goodIn_p wsL_law_r25 [514, 518, 521, 810, 814, 525] (by decide +kernel) (by decide +kernel)) w h).1
set_option maxRecDepth 20000 in
theorem inr_26 : ∀ w ∈ wsL_law_r26, w ∈ lw_tbl := fun w h => ((goodIn_p wsL_law_r26 [529, 818, 822, 534, 538, 826] (by decide +kernel) (by decide +kernel)) w h).1
set_option maxRecDepth 20000 in
theorem inr_27 : ∀ w ∈ wsL_law_r27, w ∈ lw_tbl := fun w h => ((goodIn_p wsL_law_r27 [543, 830, 834, 548, 552] (by decide +kernel) (by decide +kernel)) w h).1
set_option maxRecDepth 20000 in
theorem inr_28 : ∀ w ∈ wsL_law_r28, w ∈ lw_tbl := fun w h => ((goodIn_p wsL_law_r28 [556, 560, 563, 567, 838, 842, 846] (by decide +kernel) (by decide +kernel)) w h).1
set_option maxRecDepth 20000 in
theorem inr_29 : ∀ w ∈ wsL_law_r29, w ∈ lw_tbl := fun w h => ((goodIn_p wsL_law_r29 [850, 572, 855, 576, 859, 580] (by decide +kernel) (by decide +kernel)) w h).1
set_option maxRecDepth 20000 in
theorem inr_30 : ∀ w ∈ wsL_law_r30, w ∈ lw_tbl := fun w h => ((goodIn_p wsL_law_r30 [863, 584, 867] (by decide +kernel) (by decide +kernel)) w h).1
set_option maxRecDepth 20000 in
theorem inX5 : ∀ w ∈ wsX50, w ∈ lw_tbl := by decide +kernel
set_option maxRecDepth 20000 in
theorem inX6 : ∀ w ∈ wsX60, w ∈ lw_tbl := by decide +kernel
set_option maxRecDepth 20000 in
theorem inX3 : ∀ w ∈ wsX30, w ∈ lw_tbl := by decide +kernel
set_option maxRecDepth 20000 in
theorem inX4 : ∀ w ∈ wsX40, w ∈ lw_tbl := by decide +kernel
set_option maxRecDepth 20000 in
theorem inX0 : ∀ w ∈ wsX00, w ∈ lw_tbl := by decide +kernel
set_option maxRecDepth 20000 in
theorem inX1 : ∀ w ∈ wsX10, w ∈ lw_tbl := by decide +kernel
set_option maxRecDepth 20000 in
theorem inX2 : ∀ w ∈ wsX20, w ∈ lw_tbl := by decide +kernel
theorem wsL_law_in : ∀ w ∈ wsL_law, w ∈ lw_tbl := fun w => (fun h => (List.mem_append.mp h).elim (fun h => (List.mem_append.mp h).elim (fun h => (List.mem_append.mp h).elim (fun h => (List.mem_append.mp h).elim (fun h => (List.mem_append.mp h).elim (fun h => (List.mem_append.mp h).elim (fun h => (List.mem_append.mp h).elim (fun h => (List.mem_append.mp h).elim (fun h => (List.mem_append.mp h).elim (inr_1 w) (fun h => (List.mem_append.mp h).elim (inr_2 w) (fun h => (List.mem_append.mp h).elim (inr_3 w) (fun h => (List.mem_append.mp h).elim (inr_4 w) (fun h => (List.mem_append.mp h).elim (inr_5 w) (fun h => (List.mem_append.mp h).elim (inr_6 w) (fun h => (List.mem_append.mp h).elim (inr_7 w) (fun h => (List.mem_append.mp h).elim (inr_8 w) (fun h => (List.mem_append.mp h).elim (inr_9 w) (fun h => (List.mem_append.mp h).elim (inr_10 w) (fun h => (List.mem_append.mp h).elim (inr_11 w) (fun h => (List.mem_append.mp h).elim (inr_12 w) (fun h => (List.mem_append.mp h).elim (inr_13 w) (fun h => (List.mem_append.mp h).elim (inr_14 w) (fun h => (List.mem_append.mp h).elim (inr_15 w) (fun h => (List.mem_append.mp h).elim (inr_16 w) (fun h => (List.mem_append.mp h).elim (inr_17 w) (fun h => (List.mem_append.mp h).elim (inr_18 w) (fun h => (List.mem_append.mp h).elim (inr_19 w) (fun h => (List.mem_append.mp h).elim (inr_20 w) (fun h => (List.mem_append.mp h).elim (inr_21 w) (fun h => (List.mem_append.mp h).elim (inr_22 w) (fun h => (List.mem_append.mp h).elim (inr_23 w) (fun h => (List.mem_append.mp h).elim (inr_24 w) (fun h => (List.mem_append.mp h).elim (inr_25 w) (fun h => (List.mem_append.mp h).elim (inr_26 w) (fun h => (List.mem_append.mp h).elim (inr_27 w) (fun h => (List.mem_append.mp h).elim (inr_28 w) (fun h => (List.mem_append.mp h).elim (inr_29 w) (inr_30 w)))))))))))))))))))))))))))))) (inX5 w)) (inX6 w)) (inX3 w)) (inX4 w)) (inX0 w)) (inX1 w)) (inX2 w)) (fun h => absurd h List.not_mem_nil))
theorem inlX5 : ∀ w ∈ wsX50, w ∈ wsL_law := fun _ h => List.mem_append_left _ (List.mem_append_left _ (List.mem_append_left _ (List.mem_append_left _ (List.mem_append_left _ (List.mem_append_left _ (List.mem_append_left _ (List.mem_append_right _ h)))))))
theorem inlX6 : ∀ w ∈ wsX60, w ∈ wsL_law := fun _ h => List.mem_append_left _ (List.mem_append_left _ (List.mem_append_left _ (List.mem_append_left _ (List.mem_append_left _ (List.mem_append_left _ (List.mem_append_right _ h))))))
theorem inlX3 : ∀ w ∈ wsX30, w ∈ wsL_law := fun _ h => List.mem_append_left _ (List.mem_append_left _ (List.mem_append_left _ (List.mem_append_left _ (List.mem_append_left _ (List.mem_append_right _ h)))))
theorem inlX4 : ∀ w ∈ wsX40, w ∈ wsL_law := fun _ h => List.mem_append_left _ (List.mem_append_left _ (List.mem_append_left _ (List.mem_append_left _ (List.mem_append_right _ h))))
theorem inlX0 : ∀ w ∈ wsX00, w ∈ wsL_law := fun _ h => List.mem_append_left _ (List.mem_append_left _ (List.mem_append_left _ (List.mem_append_right _ h)))
theorem inlX1 : ∀ w ∈ wsX10, w ∈ wsL_law := fun _ h => List.mem_append_left _ (List.mem_append_left _ (List.mem_append_right _ h))
theorem inlX2 : ∀ w ∈ wsX20, w ∈ wsL_law := fun _ h => List.mem_append_left _ (List.mem_append_right _ h)
