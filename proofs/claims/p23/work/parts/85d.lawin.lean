set_option maxRecDepth 20000 in
theorem gt_wsL_law_r18 : GoodIn lw_tbl wsL_law_r18 := goodIn_r _ [526, 527, 528, 529, 531, 8, 532, 533, 534, 535, 536, 537, 538, 539, 540, 541, 542, 543, 544, 545, 546, 547, 548, 549] (by decide +kernel) (by decide +kernel)
set_option maxRecDepth 20000 in
theorem gt_wsL_law_r19 : GoodIn lw_tbl wsL_law_r19 := goodIn_r _ [551, 9, 552, 553, 554, 555, 556, 557, 558, 559, 560, 561, 562, 563, 564, 565, 566, 568, 10, 569, 570, 571, 572, 573] (by decide +kernel) (by decide +kernel)
set_option maxRecDepth 20000 in
theorem gt_wsL_law_r20 : GoodIn lw_tbl wsL_law_r20 := goodIn_r _ [574, 575, 576, 577, 578, 579, 580, 581, 582, 583, 584, 585, 586, 587, 588, 589, 590, 591, 593, 11, 594, 595, 596, 597] (by decide +kernel) (by decide +kernel)
set_option maxRecDepth 20000 in
theorem gt_wsL_law_r21 : GoodIn lw_tbl wsL_law_r21 := goodIn_r _ [598, 599, 600, 601, 602, 603, 158] (by decide +kernel) (by decide +kernel)
set_option maxRecDepth 20000 in
theorem gt_wsX80 : GoodIn lw_tbl wsX80 := goodIn_of _ (by decide +kernel)
set_option maxRecDepth 20000 in
theorem gt_wsX50 : GoodIn lw_tbl wsX50 := goodIn_of _ (by decide +kernel)
set_option maxRecDepth 20000 in
theorem gt_wsX20 : GoodIn lw_tbl wsX20 := goodIn_of _ (by decide +kernel)
set_option maxRecDepth 20000 in
theorem gt_wsX40 : GoodIn lw_tbl wsX40 := goodIn_of _ (by decide +kernel)
set_option maxRecDepth 20000 in
theorem gt_wsX60 : GoodIn lw_tbl wsX60 := goodIn_of _ (by decide +kernel)
set_option maxRecDepth 20000 in
theorem gt_wsX70 : GoodIn lw_tbl wsX70 := goodIn_of _ (by decide +kernel)
set_option maxRecDepth 20000 in
theorem gt_wsX00 : GoodIn lw_tbl wsX00 := goodIn_of _ (by decide +kernel)
set_option maxRecDepth 20000 in
theorem gt_wsX10 : GoodIn lw_tbl wsX10 := goodIn_of _ (by decide +kernel)
set_option maxRecDepth 20000 in
theorem gt_wsX30 : GoodIn lw_tbl wsX30 := goodIn_of _ (by decide +kernel)
set_option maxRecDepth 20000 in
theorem wsL_law_in : ∀ w ∈ wsL_law, w ∈ lw_tbl := fun w h => ((show GoodIn lw_tbl wsL_law from (goodIn_app (goodIn_app (goodIn_app (goodIn_app (goodIn_app (goodIn_app (goodIn_app (goodIn_app (goodIn_app (goodIn_app (goodIn_app gt_wsL_law_r1 (goodIn_app gt_wsL_law_r2 (goodIn_app gt_wsL_law_r3 (goodIn_app gt_wsL_law_r4 (goodIn_app gt_wsL_law_r5 (goodIn_app gt_wsL_law_r6 (goodIn_app gt_wsL_law_r7 (goodIn_app gt_wsL_law_r8 (goodIn_app gt_wsL_law_r9 (goodIn_app gt_wsL_law_r10 (goodIn_app gt_wsL_law_r11 (goodIn_app gt_wsL_law_r12 (goodIn_app gt_wsL_law_r13 (goodIn_app gt_wsL_law_r14 (goodIn_app gt_wsL_law_r15 (goodIn_app gt_wsL_law_r16 (goodIn_app gt_wsL_law_r17 (goodIn_app gt_wsL_law_r18 (goodIn_app gt_wsL_law_r19 (goodIn_app gt_wsL_law_r20 gt_wsL_law_r21)))))))))))))))))))) gt_wsX80) gt_wsX50) gt_wsX20) gt_wsX40) gt_wsX60) gt_wsX70) gt_wsX00) gt_wsX10) gt_wsX30) (fun _ h => absurd h List.not_mem_nil))) w h).1
theorem inX0 : ∀ w ∈ wsX00, w ∈ lw_tbl := fun w h => wsL_law_in w (inlX0 w h)
theorem inX1 : ∀ w ∈ wsX10, w ∈ lw_tbl := fun w h => wsL_law_in w (inlX1 w h)
theorem inX2 : ∀ w ∈ wsX20, w ∈ lw_tbl := fun w h => wsL_law_in w (inlX2 w h)
theorem inX3 : ∀ w ∈ wsX30, w ∈ lw_tbl := fun w h => wsL_law_in w (inlX3 w h)
theorem inX4 : ∀ w ∈ wsX40, w ∈ lw_tbl := fun w h => wsL_law_in w (inlX4 w h)
theorem inX5 : ∀ w ∈ wsX50, w ∈ lw_tbl := fun w h => wsL_law_in w (inlX5 w h)
theorem inX6 : ∀ w ∈ wsX60, w ∈ lw_tbl := fun w h => wsL_law_in w (inlX6 w h)
theorem inX7 : ∀ w ∈ wsX70, w ∈ lw_tbl := fun w h => wsL_law_in w (inlX7 w h)
theorem inX8 : ∀ w ∈ wsX80, w ∈ lw_tbl := fun w h => wsL_law_in w (inlX8 w h)
theorem inX9 : ∀ w ∈ wsX90, w ∈ lw_tbl := by decide +kernel
