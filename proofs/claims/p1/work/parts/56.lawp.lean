set_option maxRecDepth 20000 in
theorem pq_wsX11_init_r1 : ∀ w ∈ wsX11_init_r1, w ∈ wsL_law := fcL lm_1_10 (fcL lm_1_11 (fcL lm_1_12 (fcL lm_1_13 (fcL lm_1_14 (fcL lm_1_15 (fcL lm_1_16 (fcL lm_1_17 (fcL lm_1_18 (fcL lm_1_19 (fcL lm_1_20 (fcL lm_1_21 (fcL lm_1_22 (fcL lm_1_23 (fcL lm_2_0 (fcL lm_2_1 (fcL lm_2_2 (fcL lm_2_3 (fcL lm_2_4 (fcL lm_2_5 (fcL lm_2_6 (fcL lm_2_7 (fcL lm_2_8 (fcL lm_2_9 (fnL))))))))))))))))))))))))
set_option maxRecDepth 20000 in
theorem pq_wsX11_init_r2 : ∀ w ∈ wsX11_init_r2, w ∈ wsL_law := fcL lm_2_10 (fcL lm_2_11 (fcL lm_2_12 (fcL lm_2_13 (fcL lm_2_14 (fcL lm_2_15 (fcL lm_2_16 (fcL lm_2_17 (fcL lm_2_18 (fcL lm_2_19 (fcL lm_2_20 (fcL lm_2_21 (fcL lm_2_22 (fcL lm_2_23 (fcL lm_3_0 (fcL lm_3_1 (fcL lm_3_2 (fcL lm_3_3 (fcL lm_3_4 (fcL lm_3_5 (fcL lm_3_6 (fcL lm_3_7 (fcL lm_3_8 (fcL lm_3_9 (fnL))))))))))))))))))))))))
set_option maxRecDepth 20000 in
theorem pq_wsX11_init_r3 : ∀ w ∈ wsX11_init_r3, w ∈ wsL_law := fcL lm_3_10 (fcL lm_3_11 (fcL lm_3_12 (fcL lm_3_13 (fcL lm_3_14 (fcL lm_3_15 (fcL lm_3_16 (fcL lm_3_17 (fcL lm_3_18 (fcL lm_3_19 (fcL lm_3_20 (fcL lm_3_21 (fcL lm_3_22 (fcL lm_3_23 (fcL lm_4_0 (fcL lm_4_1 (fcL lm_4_2 (fcL lm_4_3 (fcL lm_4_4 (fcL lm_4_5 (fcL lm_4_6 (fcL lm_4_7 (fcL lm_4_8 (fcL lm_4_9 (fnL))))))))))))))))))))))))
set_option maxRecDepth 20000 in
theorem pq_wsX11_init_r4 : ∀ w ∈ wsX11_init_r4, w ∈ wsL_law := fcL lm_4_10 (fcL lm_4_11 (fcL lm_4_12 (fcL lm_4_13 (fcL lm_4_14 (fcL lm_4_15 (fcL lm_4_16 (fcL lm_4_17 (fcL lm_4_18 (fcL lm_4_19 (fcL lm_4_20 (fcL lm_4_21 (fcL lm_4_22 (fcL lm_4_23 (fcL lm_5_0 (fcL lm_5_1 (fcL lm_5_2 (fcL lm_5_3 (fcL lm_5_4 (fcL lm_5_5 (fcL lm_5_6 (fcL lm_5_7 (fcL lm_5_8 (fcL lm_5_9 (fnL))))))))))))))))))))))))
set_option maxRecDepth 20000 in
theorem pq_wsX11_init_r5 : ∀ w ∈ wsX11_init_r5, w ∈ wsL_law := fcL lm_5_10 (fcL lm_5_11 (fcL lm_5_12 (fcL lm_5_13 (fcL lm_1_6 (fcL lm_5_14 (fcL lm_5_15 (fcL lm_5_16 (fcL lm_5_17 (fcL lm_5_18 (fcL lm_5_19 (fcL lm_5_20 (fcL lm_5_21 (fcL lm_5_22 (fcL lm_5_23 (fcL lm_6_0 (fcL lm_6_1 (fcL lm_6_2 (fcL lm_6_3 (fcL lm_6_4 (fcL lm_6_5 (fcL lm_6_6 (fcL lm_6_7 (fcL lm_6_8 (fnL))))))))))))))))))))))))
set_option maxRecDepth 20000 in
theorem pq_wsX11_init_r6 : ∀ w ∈ wsX11_init_r6, w ∈ wsL_law := fcL lm_6_9 (fcL lm_6_10 (fcL lm_6_11 (fcL lm_6_12 (fcL lm_6_13 (fcL lm_6_14 (fcL lm_6_15 (fcL lm_6_16 (fcL lm_6_17 (fcL lm_6_18 (fcL lm_6_19 (fcL lm_6_20 (fcL lm_6_21 (fcL lm_6_22 (fcL lm_6_23 (fcL lm_7_0 (fcL lm_7_1 (fnL)))))))))))))))))
set_option maxRecDepth 20000 in
theorem pq_wsX12_init_r1 : ∀ w ∈ wsX12_init_r1, w ∈ wsL_law := fcL lm_7_5 (fcL lm_1_11 (fcL lm_1_12 (fcL lm_3_7 (fcL lm_7_6 (fcL lm_7_7 (fcL lm_7_8 (fcL lm_7_9 (fcL lm_7_10 (fcL lm_7_11 (fcL lm_7_12 (fcL lm_7_13 (fcL lm_7_14 (fcL lm_7_15 (fcL lm_7_16 (fcL lm_7_17 (fcL lm_7_18 (fcL lm_7_19 (fcL lm_7_20 (fcL lm_7_21 (fcL lm_7_22 (fcL lm_7_23 (fcL lm_8_0 (fcL lm_8_1 (fnL))))))))))))))))))))))))
set_option maxRecDepth 20000 in
theorem pq_wsX12_init_r2 : ∀ w ∈ wsX12_init_r2, w ∈ wsL_law := fcL lm_8_2 (fcL lm_8_3 (fcL lm_8_4 (fcL lm_8_5 (fcL lm_8_6 (fcL lm_8_7 (fcL lm_8_8 (fcL lm_8_9 (fcL lm_8_10 (fcL lm_8_11 (fcL lm_8_12 (fcL lm_8_13 (fcL lm_8_14 (fcL lm_8_15 (fcL lm_8_16 (fcL lm_8_17 (fcL lm_8_18 (fcL lm_8_19 (fcL lm_8_20 (fcL lm_8_21 (fcL lm_8_22 (fcL lm_8_23 (fcL lm_1_6 (fcL lm_9_0 (fnL))))))))))))))))))))))))
set_option maxRecDepth 20000 in
theorem pq_wsX12_init_r3 : ∀ w ∈ wsX12_init_r3, w ∈ wsL_law := fcL lm_9_1 (fcL lm_9_2 (fcL lm_9_3 (fcL lm_9_4 (fcL lm_9_5 (fcL lm_9_6 (fcL lm_9_7 (fcL lm_9_8 (fcL lm_9_9 (fcL lm_1_5 (fcL lm_9_10 (fcL lm_9_11 (fnL))))))))))))
set_option maxRecDepth 20000 in
theorem pq_wsX11_figure_r1 : ∀ w ∈ wsX11_figure_r1, w ∈ wsL_law := fcL lm_1_16 (fcL lm_9_16 (fcL lm_9_17 (fcL lm_9_18 (fcL lm_9_19 (fcL lm_1_2 (fcL lm_9_20 (fcL lm_9_21 (fcL lm_9_22 (fcL lm_9_23 (fcL lm_10_0 (fcL lm_10_1 (fcL lm_10_2 (fcL lm_3_4 (fcL lm_10_3 (fcL lm_3_15 (fcL lm_10_4 (fcL lm_3_16 (fcL lm_3_17 (fcL lm_3_18 (fcL lm_10_5 (fcL lm_10_6 (fcL lm_10_7 (fcL lm_10_8 (fnL))))))))))))))))))))))))
set_option maxRecDepth 20000 in
theorem pq_wsX11_figure_r2 : ∀ w ∈ wsX11_figure_r2, w ∈ wsL_law := fcL lm_3_19 (fcL lm_4_1 (fcL lm_10_9 (fcL lm_10_10 (fcL lm_10_11 (fcL lm_10_12 (fcL lm_10_13 (fcL lm_3_20 (fcL lm_3_21 (fcL lm_10_14 (fcL lm_10_15 (fcL lm_10_16 (fcL lm_10_17 (fcL lm_10_18 (fcL lm_10_19 (fcL lm_10_20 (fcL lm_10_21 (fcL lm_10_22 (fcL lm_10_23 (fcL lm_11_0 (fcL lm_11_1 (fcL lm_11_2 (fcL lm_10_20 (fcL lm_11_4 (fnL))))))))))))))))))))))))
set_option maxRecDepth 20000 in
theorem pq_wsX11_figure_r3 : ∀ w ∈ wsX11_figure_r3, w ∈ wsL_law := fcL lm_11_5 (fcL lm_11_6 (fcL lm_11_7 (fcL lm_11_8 (fcL lm_11_9 (fcL lm_11_10 (fcL lm_11_11 (fnL)))))))
set_option maxRecDepth 20000 in
theorem pq_wsX11_limb_r1 : ∀ w ∈ wsX11_limb_r1, w ∈ wsL_law := fcL lm_1_16 (fcL lm_9_17 (fcL lm_12_8 (fcL lm_12_9 (fcL lm_12_10 (fcL lm_12_11 (fcL lm_12_12 (fcL lm_1_2 (fcL lm_12_13 (fcL lm_12_14 (fcL lm_12_15 (fcL lm_12_16 (fcL lm_12_17 (fcL lm_9_16 (fcL lm_9_21 (fcL lm_9_22 (fcL lm_9_23 (fcL lm_9_18 (fcL lm_9_19 (fcL lm_9_20 (fcL lm_10_0 (fcL lm_10_1 (fcL lm_10_2 (fcL lm_3_4 (fnL))))))))))))))))))))))))
set_option maxRecDepth 20000 in
theorem pq_wsX11_limb_r2 : ∀ w ∈ wsX11_limb_r2, w ∈ wsL_law := fcL lm_10_3 (fcL lm_3_15 (fcL lm_10_4 (fcL lm_3_16 (fcL lm_3_17 (fcL lm_3_18 (fcL lm_10_5 (fcL lm_10_6 (fcL lm_10_7 (fcL lm_10_8 (fcL lm_3_19 (fcL lm_4_1 (fcL lm_10_9 (fcL lm_10_10 (fcL lm_10_11 (fcL lm_10_12 (fcL lm_10_13 (fcL lm_3_20 (fcL lm_3_21 (fcL lm_10_14 (fcL lm_10_15 (fcL lm_10_16 (fcL lm_10_17 (fcL lm_10_18 (fnL))))))))))))))))))))))))
set_option maxRecDepth 20000 in
theorem pq_wsX11_limb_r3 : ∀ w ∈ wsX11_limb_r3, w ∈ wsL_law := fcL lm_10_19 (fcL lm_10_20 (fcL lm_10_21 (fcL lm_10_22 (fcL lm_10_23 (fcL lm_11_0 (fcL lm_11_1 (fcL lm_11_2 (fcL lm_10_20 (fcL lm_11_4 (fcL lm_11_5 (fcL lm_11_6 (fcL lm_11_7 (fcL lm_11_8 (fcL lm_11_9 (fcL lm_11_10 (fcL lm_11_11 (fnL)))))))))))))))))
set_option maxRecDepth 20000 in
theorem pq_wsX12_limb_r1 : ∀ w ∈ wsX12_limb_r1, w ∈ wsL_law := fcL lm_11_16 (fcL lm_7_6 (fcL lm_12_22 (fcL lm_12_23 (fcL lm_13_0 (fcL lm_1_5 (fcL lm_13_1 (fcL lm_13_2 (fcL lm_13_3 (fcL lm_13_4 (fcL lm_13_5 (fcL lm_11_17 (fcL lm_11_21 (fcL lm_11_22 (fcL lm_11_23 (fcL lm_11_18 (fcL lm_11_19 (fcL lm_11_20 (fcL lm_12_0 (fcL lm_12_1 (fcL lm_12_2 (fcL lm_12_3 (fcL lm_7_7 (fcL lm_7_8 (fnL))))))))))))))))))))))))
set_option maxRecDepth 20000 in
theorem pq_wsX12_limb_r2 : ∀ w ∈ wsX12_limb_r2, w ∈ wsL_law := fcL lm_7_9 (fcL lm_7_10 (fcL lm_7_11 (fnL)))
set_option maxRecDepth 20000 in
theorem pq_wsX11_string_r1 : ∀ w ∈ wsX11_string_r1, w ∈ wsL_law := fcL lm_1_16 (fcL lm_9_17 (fcL lm_13_10 (fcL lm_13_11 (fcL lm_12_10 (fcL lm_12_11 (fcL lm_12_12 (fcL lm_1_2 (fcL lm_12_13 (fcL lm_12_8 (fcL lm_12_14 (fcL lm_12_15 (fcL lm_12_16 (fcL lm_12_17 (fcL lm_9_16 (fcL lm_9_21 (fcL lm_9_22 (fcL lm_9_23 (fcL lm_13_12 (fcL lm_13_13 (fcL lm_13_14 (fcL lm_4_0 (fcL lm_13_15 (fcL lm_4_9 (fnL))))))))))))))))))))))))
set_option maxRecDepth 20000 in
theorem pq_wsX11_string_r2 : ∀ w ∈ wsX11_string_r2, w ∈ wsL_law := fcL lm_13_16 (fcL lm_4_10 (fcL lm_4_11 (fnL)))
set_option maxRecDepth 20000 in
theorem pq_wsX11_place_r1 : ∀ w ∈ wsX11_place_r1, w ∈ wsL_law := fcL lm_14_1 (fcL lm_14_2 (fcL lm_1_16 (fcL lm_9_17 (fcL lm_12_14 (fcL lm_12_15 (fcL lm_12_16 (fcL lm_1_2 (fcL lm_12_17 (fcL lm_9_16 (fcL lm_9_21 (fcL lm_9_22 (fcL lm_9_23 (fcL lm_14_3 (fcL lm_14_4 (fcL lm_14_5 (fcL lm_3_4 (fcL lm_14_6 (fcL lm_14_7 (fcL lm_11_9 (fcL lm_14_8 (fcL lm_14_9 (fcL lm_11_5 (fcL lm_11_6 (fnL))))))))))))))))))))))))
set_option maxRecDepth 20000 in
theorem pq_wsX11_place_r2 : ∀ w ∈ wsX11_place_r2, w ∈ wsL_law := fcL lm_11_7 (fcL lm_11_8 (fcL lm_10_4 (fcL lm_3_21 (fcL lm_10_18 (fcL lm_10_19 (fcL lm_10_20 (fcL lm_10_21 (fcL lm_10_22 (fcL lm_10_23 (fcL lm_11_0 (fcL lm_11_10 (fcL lm_11_11 (fnL)))))))))))))
set_option maxRecDepth 20000 in
theorem pq_wsX11_pull_r1 : ∀ w ∈ wsX11_pull_r1, w ∈ wsL_law := fcL lm_1_16 (fcL lm_9_17 (fcL lm_13_10 (fcL lm_14_20 (fcL lm_14_21 (fcL lm_14_22 (fcL lm_14_23 (fcL lm_15_0 (fcL lm_1_2 (fcL lm_15_1 (fcL lm_13_11 (fcL lm_12_14 (fcL lm_12_15 (fcL lm_12_16 (fcL lm_12_17 (fcL lm_9_16 (fcL lm_9_21 (fcL lm_9_22 (fcL lm_9_23 (fcL lm_15_2 (fcL lm_15_3 (fcL lm_15_4 (fcL lm_4_0 (fcL lm_15_5 (fnL))))))))))))))))))))))))
set_option maxRecDepth 20000 in
theorem pq_wsX11_pull_r2 : ∀ w ∈ wsX11_pull_r2, w ∈ wsL_law := fcL lm_4_12 (fcL lm_15_6 (fcL lm_15_7 (fcL lm_10_20 (fcL lm_15_8 (fcL lm_4_15 (fcL lm_4_14 (fcL lm_4_11 (fcL lm_15_9 (fcL lm_15_10 (fcL lm_15_11 (fcL lm_3_4 (fcL lm_15_12 (fcL lm_11_11 (fcL lm_14_9 (fcL lm_3_20 (fcL lm_10_5 (fcL lm_10_6 (fcL lm_10_7 (fcL lm_10_8 (fcL lm_10_4 (fcL lm_3_19 (fcL lm_4_1 (fcL lm_10_9 (fnL))))))))))))))))))))))))
set_option maxRecDepth 20000 in
theorem pq_wsX11_pull_r3 : ∀ w ∈ wsX11_pull_r3, w ∈ wsL_law := fcL lm_10_10 (fcL lm_10_11 (fcL lm_10_12 (fcL lm_10_13 (fcL lm_3_15 (fcL lm_3_16 (fcL lm_3_21 (fcL lm_10_14 (fcL lm_10_15 (fcL lm_10_16 (fcL lm_10_17 (fcL lm_3_18 (fcL lm_10_18 (fcL lm_10_19 (fcL lm_10_21 (fcL lm_10_22 (fcL lm_10_23 (fcL lm_11_0 (fcL lm_3_17 (fcL lm_11_1 (fcL lm_11_2 (fcL lm_10_20 (fcL lm_11_4 (fcL lm_11_5 (fnL))))))))))))))))))))))))
set_option maxRecDepth 20000 in
theorem pq_wsX11_pull_r4 : ∀ w ∈ wsX11_pull_r4, w ∈ wsL_law := fcL lm_11_6 (fcL lm_11_7 (fcL lm_11_8 (fcL lm_11_9 (fcL lm_11_10 (fnL)))))
set_option maxRecDepth 20000 in
theorem pq_wsX12_pull_r1 : ∀ w ∈ wsX12_pull_r1, w ∈ wsL_law := fcL lm_11_16 (fcL lm_7_23 (fcL lm_15_17 (fcL lm_15_18 (fcL lm_15_19 (fcL lm_1_5 (fcL lm_15_20 (fcL lm_7_12 (fcL lm_13_2 (fcL lm_13_3 (fcL lm_13_4 (fcL lm_13_5 (fcL lm_11_17 (fcL lm_11_21 (fcL lm_11_22 (fcL lm_11_23 (fcL lm_15_21 (fcL lm_15_22 (fcL lm_15_23 (fcL lm_16_0 (fcL lm_16_1 (fcL lm_16_2 (fcL lm_16_3 (fcL lm_16_4 (fnL))))))))))))))))))))))))
set_option maxRecDepth 20000 in
theorem pq_wsX12_pull_r2 : ∀ w ∈ wsX12_pull_r2, w ∈ wsL_law := fcL lm_16_5 (fcL lm_16_6 (fcL lm_7_6 (fcL lm_7_7 (fcL lm_8_13 (fcL lm_7_8 (fcL lm_8_15 (fcL lm_8_14 (fcL lm_8_16 (fcL lm_7_9 (fcL lm_16_7 (fcL lm_16_8 (fcL lm_16_9 (fcL lm_16_10 (fcL lm_16_11 (fcL lm_16_12 (fcL lm_7_13 (fcL lm_7_14 (fcL lm_7_11 (fcL lm_7_10 (fcL lm_16_13 (fcL lm_10_19 (fcL lm_10_20 (fcL lm_10_21 (fnL))))))))))))))))))))))))
set_option maxRecDepth 20000 in
theorem pq_wsX12_pull_r3 : ∀ w ∈ wsX12_pull_r3, w ∈ wsL_law := fcL lm_16_14 (fcL lm_10_23 (fcL lm_11_0 (fcL lm_16_15 (fcL lm_16_16 (fcL lm_16_17 (fcL lm_16_18 (fcL lm_16_19 (fcL lm_16_20 (fcL lm_16_21 (fcL lm_16_22 (fcL lm_16_23 (fcL lm_17_0 (fcL lm_17_1 (fcL lm_17_2 (fcL lm_17_3 (fcL lm_17_4 (fcL lm_17_5 (fcL lm_17_6 (fcL lm_17_7 (fcL lm_17_8 (fcL lm_17_9 (fcL lm_17_10 (fcL lm_17_11 (fnL))))))))))))))))))))))))
set_option maxRecDepth 20000 in
theorem pq_wsX12_pull_r4 : ∀ w ∈ wsX12_pull_r4, w ∈ wsL_law := fcL lm_15_7 (fcL lm_15_8 (fcL lm_7_15 (fcL lm_17_12 (fcL lm_17_13 (fcL lm_17_14 (fcL lm_17_15 (fcL lm_17_16 (fnL))))))))
set_option maxRecDepth 20000 in
theorem pq_wsX11_mend_r1 : ∀ w ∈ wsX11_mend_r1, w ∈ wsL_law := fcL lm_1_16 (fcL lm_9_17 (fcL lm_13_10 (fcL lm_17_21 (fcL lm_17_22 (fcL lm_14_21 (fcL lm_14_22 (fcL lm_14_23 (fcL lm_15_0 (fcL lm_1_2 (fcL lm_15_1 (fcL lm_13_11 (fcL lm_12_14 (fcL lm_12_15 (fcL lm_12_16 (fcL lm_12_17 (fcL lm_9_16 (fcL lm_9_21 (fcL lm_9_22 (fcL lm_9_23 (fcL lm_15_9 (fcL lm_15_10 (fcL lm_15_11 (fcL lm_3_4 (fnL))))))))))))))))))))))))
set_option maxRecDepth 20000 in
theorem pq_wsX11_mend_r2 : ∀ w ∈ wsX11_mend_r2, w ∈ wsL_law := fcL lm_15_12 (fcL lm_11_11 (fcL lm_14_9 (fcL lm_3_20 (fcL lm_10_5 (fcL lm_10_6 (fcL lm_10_7 (fcL lm_10_8 (fcL lm_10_4 (fcL lm_3_19 (fcL lm_4_1 (fcL lm_10_9 (fcL lm_10_10 (fcL lm_10_11 (fcL lm_10_12 (fcL lm_10_13 (fcL lm_3_15 (fcL lm_3_16 (fcL lm_3_21 (fcL lm_10_14 (fcL lm_10_15 (fcL lm_10_16 (fcL lm_10_17 (fcL lm_3_18 (fnL))))))))))))))))))))))))
set_option maxRecDepth 20000 in
theorem pq_wsX11_mend_r3 : ∀ w ∈ wsX11_mend_r3, w ∈ wsL_law := fcL lm_10_18 (fcL lm_10_19 (fcL lm_10_20 (fcL lm_10_21 (fcL lm_10_22 (fcL lm_10_23 (fcL lm_11_0 (fcL lm_3_17 (fcL lm_11_1 (fcL lm_11_2 (fcL lm_10_20 (fcL lm_11_4 (fcL lm_11_5 (fcL lm_11_6 (fcL lm_11_7 (fcL lm_11_8 (fcL lm_11_9 (fcL lm_11_10 (fnL))))))))))))))))))
set_option maxRecDepth 20000 in
theorem pq_wsX12_mend_r1 : ∀ w ∈ wsX12_mend_r1, w ∈ wsL_law := fcL lm_11_16 (fcL lm_7_23 (fcL lm_15_17 (fcL lm_15_18 (fcL lm_15_19 (fcL lm_1_5 (fcL lm_15_20 (fcL lm_7_12 (fcL lm_13_2 (fcL lm_13_3 (fcL lm_13_4 (fcL lm_13_5 (fcL lm_11_17 (fcL lm_11_21 (fcL lm_11_22 (fcL lm_11_23 (fcL lm_15_21 (fcL lm_15_22 (fcL lm_15_23 (fcL lm_16_0 (fcL lm_16_1 (fcL lm_16_2 (fcL lm_16_3 (fcL lm_16_4 (fnL))))))))))))))))))))))))
set_option maxRecDepth 20000 in
theorem pq_wsX12_mend_r2 : ∀ w ∈ wsX12_mend_r2, w ∈ wsL_law := fcL lm_16_5 (fcL lm_16_6 (fcL lm_7_6 (fcL lm_7_7 (fcL lm_8_13 (fcL lm_7_8 (fcL lm_8_15 (fcL lm_8_14 (fcL lm_8_16 (fcL lm_7_9 (fcL lm_16_7 (fcL lm_16_8 (fcL lm_16_9 (fcL lm_16_10 (fcL lm_16_11 (fcL lm_16_12 (fcL lm_7_13 (fcL lm_7_14 (fcL lm_7_11 (fcL lm_7_10 (fcL lm_16_13 (fcL lm_10_19 (fcL lm_10_20 (fcL lm_10_21 (fnL))))))))))))))))))))))))
set_option maxRecDepth 20000 in
theorem pq_wsX12_mend_r3 : ∀ w ∈ wsX12_mend_r3, w ∈ wsL_law := fcL lm_16_14 (fcL lm_10_23 (fcL lm_11_0 (fcL lm_16_15 (fcL lm_16_16 (fcL lm_16_17 (fcL lm_16_18 (fcL lm_16_19 (fcL lm_16_20 (fcL lm_16_21 (fcL lm_16_22 (fcL lm_16_23 (fcL lm_17_0 (fcL lm_17_1 (fcL lm_17_2 (fcL lm_17_3 (fcL lm_17_4 (fcL lm_17_5 (fcL lm_17_6 (fcL lm_17_12 (fcL lm_17_13 (fcL lm_17_14 (fcL lm_17_15 (fcL lm_17_16 (fnL))))))))))))))))))))))))
set_option maxRecDepth 20000 in
theorem pq_wsL_of_r1 : ∀ w ∈ wsL_of_r1, w ∈ wsL_law := fcL lm_18_18 (fcL lm_18_19 (fcL lm_18_20 (fcL lm_18_21 (fcL lm_1_2 (fcL lm_18_22 (fcL lm_18_23 (fcL lm_19_0 (fcL lm_1_16 (fcL lm_9_17 (fcL lm_12_8 (fcL lm_13_10 (fcL lm_13_11 (fcL lm_19_1 (fcL lm_19_2 (fcL lm_19_3 (fcL lm_19_4 (fcL lm_19_5 (fcL lm_19_6 (fcL lm_12_14 (fcL lm_12_15 (fcL lm_12_16 (fcL lm_12_17 (fcL lm_9_16 (fnL))))))))))))))))))))))))
set_option maxRecDepth 20000 in
theorem pq_wsL_of_r2 : ∀ w ∈ wsL_of_r2, w ∈ wsL_law := fcL lm_9_21 (fcL lm_9_22 (fcL lm_9_23 (fcL lm_19_7 (fcL lm_19_8 (fcL lm_19_9 (fcL lm_4_0 (fcL lm_19_10 (fcL lm_13_16 (fcL lm_4_15 (fnL))))))))))
set_option maxRecDepth 20000 in
theorem pq_wsX12_of_r1 : ∀ w ∈ wsX12_of_r1, w ∈ wsL_law := fcL lm_11_16 (fcL lm_7_6 (fcL lm_7_12 (fcL lm_7_23 (fcL lm_7_18 (fcL lm_13_2 (fcL lm_13_3 (fcL lm_13_4 (fcL lm_1_5 (fcL lm_13_5 (fcL lm_11_17 (fcL lm_11_21 (fcL lm_11_22 (fcL lm_11_23 (fcL lm_19_15 (fcL lm_19_16 (fcL lm_19_17 (fcL lm_19_18 (fcL lm_16_3 (fcL lm_16_4 (fcL lm_16_5 (fcL lm_16_6 (fcL lm_7_7 (fcL lm_8_13 (fnL))))))))))))))))))))))))
set_option maxRecDepth 20000 in
theorem pq_wsX12_of_r2 : ∀ w ∈ wsX12_of_r2, w ∈ wsL_law := fcL lm_7_8 (fcL lm_8_15 (fcL lm_8_14 (fcL lm_8_16 (fcL lm_7_9 (fcL lm_16_7 (fcL lm_16_8 (fcL lm_16_9 (fcL lm_16_10 (fcL lm_16_11 (fcL lm_16_12 (fcL lm_7_13 (fcL lm_7_14 (fcL lm_7_11 (fcL lm_7_10 (fcL lm_16_13 (fcL lm_10_19 (fcL lm_10_20 (fcL lm_10_21 (fcL lm_16_14 (fcL lm_10_23 (fcL lm_11_0 (fcL lm_16_19 (fcL lm_16_20 (fnL))))))))))))))))))))))))
set_option maxRecDepth 20000 in
theorem pq_wsX12_of_r3 : ∀ w ∈ wsX12_of_r3, w ∈ wsL_law := fcL lm_16_21 (fcL lm_16_22 (fcL lm_16_23 (fcL lm_17_0 (fcL lm_17_1 (fcL lm_17_2 (fcL lm_16_15 (fcL lm_16_16 (fcL lm_16_17 (fcL lm_16_18 (fnL))))))))))
set_option maxRecDepth 20000 in
theorem pq_wsL_at_r1 : ∀ w ∈ wsL_at_r1, w ∈ wsL_law := fcL lm_18_18 (fcL lm_20_2 (fcL lm_20_3 (fcL lm_20_4 (fcL lm_1_2 (fcL lm_20_5 (fcL lm_18_23 (fcL lm_19_0 (fcL lm_1_16 (fcL lm_9_17 (fcL lm_20_6 (fcL lm_19_1 (fcL lm_20_7 (fcL lm_19_2 (fcL lm_20_8 (fcL lm_12_10 (fcL lm_12_11 (fcL lm_12_12 (fcL lm_12_13 (fcL lm_12_8 (fcL lm_12_14 (fcL lm_12_15 (fcL lm_12_16 (fcL lm_12_17 (fnL))))))))))))))))))))))))
set_option maxRecDepth 20000 in
theorem pq_wsL_at_r2 : ∀ w ∈ wsL_at_r2, w ∈ wsL_law := fcL lm_9_16 (fcL lm_9_21 (fcL lm_9_22 (fcL lm_9_23 (fnL))))
set_option maxRecDepth 20000 in
theorem pq_wsX12_at_r1 : ∀ w ∈ wsX12_at_r1, w ∈ wsL_law := fcL lm_11_16 (fcL lm_7_23 (fcL lm_8_15 (fcL lm_8_16 (fcL lm_12_22 (fcL lm_12_23 (fcL lm_13_0 (fcL lm_1_5 (fcL lm_13_1 (fcL lm_7_6 (fcL lm_13_2 (fcL lm_13_3 (fcL lm_13_4 (fcL lm_13_5 (fcL lm_11_17 (fcL lm_11_21 (fcL lm_11_22 (fcL lm_11_23 (fcL lm_19_15 (fcL lm_19_16 (fcL lm_19_17 (fcL lm_19_18 (fcL lm_16_3 (fcL lm_16_4 (fnL))))))))))))))))))))))))
set_option maxRecDepth 20000 in
theorem pq_wsX12_at_r2 : ∀ w ∈ wsX12_at_r2, w ∈ wsL_law := fcL lm_16_5 (fcL lm_16_6 (fcL lm_7_7 (fcL lm_8_13 (fcL lm_7_8 (fcL lm_8_14 (fcL lm_7_9 (fcL lm_16_7 (fcL lm_16_8 (fcL lm_16_9 (fcL lm_16_10 (fcL lm_16_11 (fcL lm_16_12 (fcL lm_7_12 (fcL lm_7_13 (fcL lm_7_14 (fcL lm_7_11 (fcL lm_7_10 (fcL lm_16_13 (fcL lm_10_19 (fcL lm_10_20 (fcL lm_10_21 (fcL lm_16_14 (fcL lm_10_23 (fnL))))))))))))))))))))))))
set_option maxRecDepth 20000 in
theorem pq_wsX12_at_r3 : ∀ w ∈ wsX12_at_r3, w ∈ wsL_law := fcL lm_11_0 (fcL lm_16_19 (fcL lm_16_20 (fcL lm_16_21 (fcL lm_16_22 (fcL lm_16_23 (fcL lm_17_0 (fcL lm_17_1 (fcL lm_17_2 (fnL)))))))))
set_option maxRecDepth 20000 in
theorem pq_wsX11_score_r1 : ∀ w ∈ wsX11_score_r1, w ∈ wsL_law := fcL lm_1_16 (fcL lm_9_17 (fcL lm_2_0 (fcL lm_1_20 (fcL lm_13_10 (fcL lm_13_11 (fcL lm_19_5 (fcL lm_21_3 (fcL lm_12_14 (fcL lm_12_15 (fcL lm_12_16 (fcL lm_1_2 (fcL lm_12_17 (fcL lm_9_16 (fcL lm_9_21 (fcL lm_9_22 (fcL lm_9_23 (fcL lm_22_2 (fcL lm_22_3 (fcL lm_22_4 (fcL lm_1_23 (fcL lm_22_5 (fcL lm_22_6 (fcL lm_22_7 (fnL))))))))))))))))))))))))
set_option maxRecDepth 20000 in
theorem pq_wsX11_score_r2 : ∀ w ∈ wsX11_score_r2, w ∈ wsL_law := fcL lm_22_8 (fcL lm_22_9 (fcL lm_22_10 (fcL lm_22_11 (fcL lm_22_12 (fcL lm_22_13 (fcL lm_22_14 (fcL lm_22_15 (fcL lm_22_16 (fcL lm_22_17 (fcL lm_22_18 (fcL lm_22_19 (fcL lm_22_20 (fcL lm_22_21 (fcL lm_22_22 (fcL lm_22_23 (fcL lm_23_0 (fcL lm_5_5 (fcL lm_5_6 (fcL lm_23_1 (fcL lm_23_2 (fcL lm_23_3 (fcL lm_23_4 (fcL lm_23_5 (fnL))))))))))))))))))))))))
set_option maxRecDepth 20000 in
theorem pq_wsX11_score_r3 : ∀ w ∈ wsX11_score_r3, w ∈ wsL_law := fcL lm_23_6 (fcL lm_23_7 (fcL lm_23_8 (fcL lm_5_4 (fcL lm_23_9 (fcL lm_23_10 (fcL lm_23_11 (fcL lm_23_12 (fcL lm_23_13 (fcL lm_23_14 (fcL lm_23_15 (fcL lm_23_16 (fcL lm_10_19 (fcL lm_10_20 (fcL lm_10_21 (fcL lm_23_17 (fcL lm_23_18 (fcL lm_23_19 (fcL lm_23_20 (fcL lm_23_21 (fcL lm_23_22 (fcL lm_23_23 (fcL lm_24_0 (fnL)))))))))))))))))))))))
set_option maxRecDepth 20000 in
theorem pq_wsX12_score_r1 : ∀ w ∈ wsX12_score_r1, w ∈ wsL_law := fcL lm_11_16 (fcL lm_21_13 (fcL lm_24_5 (fcL lm_24_6 (fcL lm_24_7 (fcL lm_7_20 (fcL lm_8_1 (fcL lm_7_21 (fcL lm_8_17 (fcL lm_7_18 (fcL lm_13_2 (fcL lm_13_3 (fcL lm_13_4 (fcL lm_1_5 (fcL lm_13_5 (fcL lm_11_17 (fcL lm_11_21 (fcL lm_11_22 (fcL lm_11_23 (fcL lm_24_8 (fcL lm_24_9 (fcL lm_24_10 (fcL lm_24_11 (fcL lm_24_12 (fnL))))))))))))))))))))))))
set_option maxRecDepth 20000 in
theorem pq_wsX12_score_r2 : ∀ w ∈ wsX12_score_r2, w ∈ wsL_law := fcL lm_24_13 (fcL lm_24_14 (fcL lm_24_15 (fcL lm_24_16 (fcL lm_24_17 (fcL lm_24_18 (fcL lm_24_19 (fcL lm_24_20 (fcL lm_24_21 (fcL lm_24_22 (fcL lm_24_23 (fcL lm_7_12 (fnL))))))))))))
set_option maxRecDepth 20000 in
theorem pq_wsX11_play_r1 : ∀ w ∈ wsX11_play_r1, w ∈ wsL_law := fcL lm_1_16 (fcL lm_25_4 (fcL lm_9_21 (fcL lm_9_22 (fcL lm_1_2 (fcL lm_9_23 (fcL lm_25_5 (fcL lm_25_6 (fcL lm_25_7 (fcL lm_1_15 (fcL lm_25_8 (fcL lm_25_9 (fcL lm_3_2 (fcL lm_25_10 (fcL lm_3_11 (fcL lm_25_11 (fcL lm_25_12 (fcL lm_25_13 (fcL lm_25_14 (fcL lm_3_4 (fcL lm_25_15 (fcL lm_4_1 (fcL lm_25_16 (fcL lm_25_17 (fnL))))))))))))))))))))))))
set_option maxRecDepth 20000 in
theorem pq_wsX11_play_r2 : ∀ w ∈ wsX11_play_r2, w ∈ wsL_law := fcL lm_25_18 (fcL lm_25_19 (fcL lm_4_5 (fcL lm_25_20 (fcL lm_25_21 (fcL lm_25_22 (fcL lm_25_23 (fcL lm_26_0 (fcL lm_26_1 (fcL lm_26_2 (fcL lm_26_3 (fcL lm_11_9 (fcL lm_10_18 (fcL lm_10_19 (fcL lm_10_20 (fcL lm_10_21 (fcL lm_10_22 (fcL lm_10_23 (fcL lm_11_0 (fcL lm_10_9 (fcL lm_26_4 (fcL lm_26_5 (fcL lm_26_6 (fcL lm_26_7 (fnL))))))))))))))))))))))))
set_option maxRecDepth 20000 in
theorem pq_wsX11_play_r3 : ∀ w ∈ wsX11_play_r3, w ∈ wsL_law := fcL lm_4_0 (fcL lm_26_8 (fcL lm_13_16 (fcL lm_4_13 (fcL lm_4_12 (fcL lm_26_9 (fcL lm_26_10 (fcL lm_26_11 (fcL lm_15_3 (fcL lm_15_4 (fcL lm_15_5 (fcL lm_15_6 (fcL lm_15_7 (fcL lm_15_8 (fcL lm_4_15 (fcL lm_4_14 (fcL lm_4_11 (fcL lm_26_12 (fcL lm_15_10 (fcL lm_15_11 (fcL lm_15_12 (fcL lm_11_11 (fcL lm_14_9 (fcL lm_3_20 (fnL))))))))))))))))))))))))
set_option maxRecDepth 20000 in
theorem pq_wsX11_play_r4 : ∀ w ∈ wsX11_play_r4, w ∈ wsL_law := fcL lm_10_5 (fcL lm_10_6 (fcL lm_10_7 (fcL lm_10_8 (fcL lm_10_4 (fcL lm_3_19 (fcL lm_10_10 (fcL lm_10_11 (fcL lm_10_12 (fcL lm_10_13 (fcL lm_3_15 (fcL lm_3_16 (fcL lm_3_21 (fcL lm_10_14 (fcL lm_10_15 (fcL lm_10_16 (fcL lm_10_17 (fcL lm_3_18 (fcL lm_3_17 (fcL lm_11_1 (fcL lm_11_2 (fcL lm_10_20 (fcL lm_11_4 (fcL lm_11_5 (fnL))))))))))))))))))))))))
set_option maxRecDepth 20000 in
theorem pq_wsX11_play_r5 : ∀ w ∈ wsX11_play_r5, w ∈ wsL_law := fcL lm_11_6 (fcL lm_11_7 (fcL lm_11_8 (fcL lm_11_10 (fcL lm_26_13 (fcL lm_26_14 (fcL lm_26_15 (fcL lm_26_16 (fcL lm_26_17 (fcL lm_3_10 (fcL lm_3_8 (fcL lm_26_18 (fcL lm_26_19 (fcL lm_26_20 (fcL lm_26_21 (fcL lm_26_22 (fcL lm_26_23 (fcL lm_27_0 (fcL lm_27_1 (fcL lm_27_2 (fcL lm_27_3 (fnL)))))))))))))))))))))
set_option maxRecDepth 20000 in
theorem pq_wsX12_play_r1 : ∀ w ∈ wsX12_play_r1, w ∈ wsL_law := fcL lm_11_16 (fcL lm_7_23 (fcL lm_27_8 (fcL lm_27_9 (fcL lm_27_10 (fcL lm_1_5 (fcL lm_27_11 (fcL lm_11_21 (fcL lm_11_22 (fcL lm_11_23 (fcL lm_27_12 (fcL lm_27_13 (fcL lm_27_14 (fcL lm_27_15 (fcL lm_11_17 (fcL lm_7_12 (fcL lm_15_21 (fcL lm_15_22 (fcL lm_15_23 (fcL lm_16_0 (fcL lm_16_1 (fcL lm_16_2 (fcL lm_16_3 (fcL lm_16_4 (fnL))))))))))))))))))))))))
set_option maxRecDepth 20000 in
theorem pq_wsX12_play_r2 : ∀ w ∈ wsX12_play_r2, w ∈ wsL_law := fcL lm_16_5 (fcL lm_16_6 (fcL lm_7_6 (fcL lm_7_7 (fcL lm_8_13 (fcL lm_7_8 (fcL lm_8_15 (fcL lm_8_14 (fcL lm_8_16 (fcL lm_7_9 (fcL lm_16_7 (fcL lm_16_8 (fcL lm_16_9 (fcL lm_16_10 (fcL lm_16_11 (fcL lm_16_12 (fcL lm_7_13 (fcL lm_7_14 (fcL lm_7_11 (fcL lm_7_10 (fcL lm_16_13 (fcL lm_10_19 (fcL lm_10_20 (fcL lm_10_21 (fnL))))))))))))))))))))))))
set_option maxRecDepth 20000 in
theorem pq_wsX12_play_r3 : ∀ w ∈ wsX12_play_r3, w ∈ wsL_law := fcL lm_16_14 (fcL lm_10_23 (fcL lm_11_0 (fcL lm_16_15 (fcL lm_16_16 (fcL lm_16_17 (fcL lm_16_18 (fcL lm_16_19 (fcL lm_16_20 (fcL lm_16_21 (fcL lm_16_22 (fcL lm_16_23 (fcL lm_17_0 (fcL lm_17_1 (fcL lm_17_2 (fcL lm_17_3 (fcL lm_17_4 (fcL lm_17_5 (fcL lm_17_6 (fcL lm_27_16 (fcL lm_27_17 (fcL lm_27_18 (fcL lm_27_19 (fcL lm_7_18 (fnL))))))))))))))))))))))))
set_option maxRecDepth 20000 in
theorem pq_wsX12_play_r4 : ∀ w ∈ wsX12_play_r4, w ∈ wsL_law := fcL lm_7_21 (fcL lm_7_20 (fcL lm_27_20 (fcL lm_27_21 (fcL lm_27_22 (fcL lm_27_23 (fcL lm_7_22 (fcL lm_17_7 (fcL lm_17_8 (fcL lm_17_9 (fcL lm_17_10 (fcL lm_17_11 (fcL lm_15_7 (fcL lm_15_8 (fcL lm_7_15 (fcL lm_17_12 (fcL lm_17_13 (fcL lm_17_14 (fcL lm_17_15 (fcL lm_17_16 (fcL lm_28_0 (fcL lm_28_1 (fcL lm_28_2 (fcL lm_28_3 (fnL))))))))))))))))))))))))
set_option maxRecDepth 20000 in
theorem pq_wsX12_play_r5 : ∀ w ∈ wsX12_play_r5, w ∈ wsL_law := fcL lm_8_18 (fcL lm_8_19 (fcL lm_18_13 (fnL)))
set_option maxRecDepth 20000 in
theorem pq_wsX11_again_r1 : ∀ w ∈ wsX11_again_r1, w ∈ wsL_law := fcL lm_1_16 (fcL lm_25_4 (fcL lm_28_8 (fcL lm_28_9 (fcL lm_28_10 (fcL lm_1_15 (fcL lm_28_11 (fcL lm_25_10 (fcL lm_25_9 (fcL lm_3_2 (fcL lm_3_8 (fcL lm_3_10 (fcL lm_28_12 (fcL lm_28_13 (fcL lm_28_14 (fcL lm_3_4 (fcL lm_28_15 (fcL lm_4_1 (fcL lm_14_8 (fcL lm_11_9 (fcL lm_14_7 (fcL lm_14_9 (fcL lm_28_16 (fcL lm_28_17 (fnL))))))))))))))))))))))))
set_option maxRecDepth 20000 in
theorem pq_wsX11_again_r2 : ∀ w ∈ wsX11_again_r2, w ∈ wsL_law := fcL lm_28_18 (fcL lm_4_0 (fcL lm_28_19 (fcL lm_13_16 (fcL lm_4_12 (fcL lm_4_13 (fcL lm_4_14 (fcL lm_4_15 (fcL lm_10_5 (fcL lm_10_6 (fcL lm_10_7 (fcL lm_10_8 (fcL lm_10_4 (fcL lm_3_19 (fcL lm_10_9 (fcL lm_10_10 (fcL lm_10_11 (fcL lm_10_12 (fcL lm_10_13 (fcL lm_3_20 (fcL lm_3_15 (fcL lm_3_16 (fcL lm_3_21 (fcL lm_10_14 (fnL))))))))))))))))))))))))
set_option maxRecDepth 20000 in
theorem pq_wsX11_again_r3 : ∀ w ∈ wsX11_again_r3, w ∈ wsL_law := fcL lm_10_15 (fcL lm_10_16 (fcL lm_10_17 (fcL lm_3_18 (fcL lm_10_18 (fcL lm_10_19 (fcL lm_10_20 (fcL lm_10_21 (fcL lm_10_22 (fcL lm_10_23 (fcL lm_11_0 (fcL lm_3_17 (fcL lm_11_1 (fcL lm_11_2 (fcL lm_10_20 (fcL lm_11_4 (fcL lm_11_5 (fcL lm_11_6 (fcL lm_11_7 (fcL lm_11_8 (fcL lm_11_10 (fcL lm_11_11 (fnL))))))))))))))))))))))
set_option maxRecDepth 20000 in
theorem pq_wsX11_met_r1 : ∀ w ∈ wsX11_met_r1, w ∈ wsL_law := fcL lm_1_16 (fcL lm_29_4 (fcL lm_29_5 (fcL lm_29_6 (fcL lm_29_7 (fcL lm_1_2 (fcL lm_29_8 (fcL lm_12_14 (fcL lm_12_15 (fcL lm_12_16 (fcL lm_12_17 (fcL lm_9_16 (fcL lm_9_21 (fcL lm_9_22 (fcL lm_9_23 (fcL lm_29_9 (fcL lm_26_19 (fcL lm_1_15 (fcL lm_26_20 (fcL lm_26_21 (fcL lm_10_19 (fcL lm_10_20 (fcL lm_10_21 (fcL lm_26_22 (fnL))))))))))))))))))))))))
set_option maxRecDepth 20000 in
theorem pq_wsX11_met_r2 : ∀ w ∈ wsX11_met_r2, w ∈ wsL_law := fcL lm_10_23 (fcL lm_11_0 (fnL))
set_option maxRecDepth 20000 in
theorem pq_wsX11_touch_r1 : ∀ w ∈ wsX11_touch_r1, w ∈ wsL_law := fcL lm_1_16 (fcL lm_9_17 (fcL lm_18_8 (fcL lm_29_5 (fcL lm_29_6 (fcL lm_29_7 (fcL lm_1_2 (fcL lm_29_8 (fcL lm_12_14 (fcL lm_12_15 (fcL lm_12_16 (fcL lm_12_17 (fcL lm_9_16 (fcL lm_9_21 (fcL lm_9_22 (fcL lm_9_23 (fcL lm_29_22 (fcL lm_27_0 (fcL lm_27_1 (fcL lm_3_4 (fcL lm_27_2 (fcL lm_10_4 (fcL lm_14_9 (fcL lm_3_20 (fnL))))))))))))))))))))))))
set_option maxRecDepth 20000 in
theorem pq_wsX11_touch_r2 : ∀ w ∈ wsX11_touch_r2, w ∈ wsL_law := fcL lm_11_10 (fcL lm_3_21 (fcL lm_27_3 (fcL lm_15_7 (fcL lm_10_20 (fcL lm_15_8 (fnL))))))
set_option maxRecDepth 20000 in
theorem pq_wsX12_touch_r1 : ∀ w ∈ wsX12_touch_r1, w ∈ wsL_law := fcL lm_11_16 (fcL lm_29_14 (fcL lm_29_15 (fcL lm_29_16 (fcL lm_1_5 (fcL lm_29_17 (fcL lm_13_2 (fcL lm_13_3 (fcL lm_13_4 (fcL lm_13_5 (fcL lm_11_17 (fcL lm_11_21 (fcL lm_11_22 (fcL lm_11_23 (fcL lm_28_0 (fcL lm_28_1 (fcL lm_28_2 (fcL lm_28_3 (fcL lm_7_6 (fcL lm_8_18 (fcL lm_8_19 (fcL lm_8_16 (fcL lm_17_11 (fcL lm_15_7 (fnL))))))))))))))))))))))))
set_option maxRecDepth 20000 in
theorem pq_wsX12_touch_r2 : ∀ w ∈ wsX12_touch_r2, w ∈ wsL_law := fcL lm_10_20 (fcL lm_15_8 (fcL lm_18_13 (fcL lm_16_3 (fcL lm_16_4 (fcL lm_16_5 (fcL lm_16_6 (fcL lm_7_7 (fcL lm_8_13 (fcL lm_7_8 (fcL lm_8_15 (fcL lm_8_14 (fcL lm_7_9 (fcL lm_16_7 (fcL lm_16_8 (fcL lm_16_9 (fcL lm_16_10 (fcL lm_16_11 (fcL lm_16_12 (fcL lm_7_12 (fcL lm_7_13 (fcL lm_7_23 (fcL lm_7_14 (fcL lm_7_11 (fnL))))))))))))))))))))))))
set_option maxRecDepth 20000 in
theorem pq_wsX12_touch_r3 : ∀ w ∈ wsX12_touch_r3, w ∈ wsL_law := fcL lm_7_10 (fcL lm_16_13 (fcL lm_10_19 (fcL lm_10_21 (fcL lm_16_14 (fcL lm_10_23 (fcL lm_11_0 (fcL lm_17_3 (fcL lm_17_4 (fcL lm_17_5 (fcL lm_17_6 (fcL lm_16_19 (fcL lm_16_20 (fcL lm_16_21 (fcL lm_16_22 (fcL lm_16_23 (fcL lm_17_0 (fcL lm_17_1 (fcL lm_17_2 (fnL)))))))))))))))))))
set_option maxRecDepth 20000 in
theorem pq_wsX11_meeting_r1 : ∀ w ∈ wsX11_meeting_r1, w ∈ wsL_law := fcL lm_1_16 (fcL lm_25_4 (fcL lm_9_17 (fcL lm_29_5 (fcL lm_29_6 (fcL lm_29_7 (fcL lm_1_2 (fcL lm_29_8 (fcL lm_12_14 (fcL lm_12_15 (fcL lm_12_16 (fcL lm_12_17 (fcL lm_9_16 (fcL lm_9_21 (fcL lm_9_22 (fcL lm_9_23 (fcL lm_30_7 (fcL lm_30_8 (fcL lm_30_9 (fcL lm_1_15 (fcL lm_30_10 (fcL lm_3_5 (fcL lm_3_6 (fcL lm_25_10 (fnL))))))))))))))))))))))))
set_option maxRecDepth 20000 in
theorem pq_wsX11_meeting_r2 : ∀ w ∈ wsX11_meeting_r2, w ∈ wsL_law := fcL lm_3_11 (fcL lm_25_11 (fcL lm_26_17 (fcL lm_30_11 (fcL lm_30_12 (fcL lm_30_13 (fcL lm_3_4 (fcL lm_30_14 (fcL lm_10_4 (fcL lm_14_7 (fcL lm_11_9 (fcL lm_14_8 (fcL lm_14_9 (fcL lm_11_10 (fcL lm_11_11 (fcL lm_4_5 (fcL lm_4_1 (fcL lm_3_15 (fcL lm_30_15 (fcL lm_23_21 (fcL lm_23_22 (fcL lm_23_23 (fcL lm_3_16 (fcL lm_3_17 (fnL))))))))))))))))))))))))
set_option maxRecDepth 20000 in
theorem pq_wsX11_meeting_r3 : ∀ w ∈ wsX11_meeting_r3, w ∈ wsL_law := fcL lm_3_18 (fcL lm_3_19 (fcL lm_3_20 (fcL lm_3_21 (fcL lm_30_16 (fcL lm_30_17 (fcL lm_30_18 (fcL lm_4_0 (fcL lm_30_19 (fcL lm_13_16 (fcL lm_4_9 (fcL lm_30_20 (fcL lm_4_10 (fcL lm_4_11 (fcL lm_4_12 (fcL lm_4_13 (fcL lm_4_14 (fcL lm_4_15 (fcL lm_25_12 (fcL lm_25_13 (fcL lm_25_14 (fcL lm_25_15 (fcL lm_25_16 (fcL lm_25_17 (fnL))))))))))))))))))))))))
set_option maxRecDepth 20000 in
theorem pq_wsX11_meeting_r4 : ∀ w ∈ wsX11_meeting_r4, w ∈ wsL_law := fcL lm_25_18 (fcL lm_25_19 (fcL lm_25_20 (fcL lm_25_21 (fcL lm_25_22 (fcL lm_25_23 (fcL lm_26_0 (fcL lm_26_1 (fcL lm_26_2 (fcL lm_26_3 (fcL lm_10_18 (fcL lm_10_19 (fcL lm_10_20 (fcL lm_10_21 (fcL lm_10_22 (fcL lm_10_23 (fcL lm_11_0 (fcL lm_10_9 (fcL lm_26_4 (fcL lm_26_5 (fcL lm_26_6 (fcL lm_26_7 (fcL lm_26_8 (fcL lm_26_9 (fnL))))))))))))))))))))))))
set_option maxRecDepth 20000 in
theorem pq_wsX11_meeting_r5 : ∀ w ∈ wsX11_meeting_r5, w ∈ wsL_law := fcL lm_26_10 (fcL lm_26_11 (fcL lm_15_3 (fcL lm_15_4 (fcL lm_15_5 (fcL lm_15_6 (fcL lm_15_7 (fcL lm_15_8 (fcL lm_26_12 (fcL lm_15_10 (fcL lm_15_11 (fcL lm_15_12 (fcL lm_10_5 (fcL lm_10_6 (fcL lm_10_7 (fcL lm_10_8 (fcL lm_10_10 (fcL lm_10_11 (fcL lm_10_12 (fcL lm_10_13 (fcL lm_10_14 (fcL lm_10_15 (fcL lm_10_16 (fcL lm_10_17 (fnL))))))))))))))))))))))))
set_option maxRecDepth 20000 in
theorem pq_wsX11_meeting_r6 : ∀ w ∈ wsX11_meeting_r6, w ∈ wsL_law := fcL lm_11_1 (fcL lm_11_2 (fcL lm_10_20 (fcL lm_11_4 (fcL lm_11_5 (fcL lm_11_6 (fcL lm_11_7 (fcL lm_11_8 (fcL lm_26_23 (fcL lm_27_0 (fcL lm_27_1 (fcL lm_27_2 (fcL lm_27_3 (fnL)))))))))))))
set_option maxRecDepth 20000 in
theorem pq_wsX12_meeting_r1 : ∀ w ∈ wsX12_meeting_r1, w ∈ wsL_law := fcL lm_11_16 (fcL lm_29_14 (fcL lm_29_15 (fcL lm_29_16 (fcL lm_1_5 (fcL lm_29_17 (fcL lm_13_2 (fcL lm_13_3 (fcL lm_13_4 (fcL lm_13_5 (fcL lm_11_17 (fcL lm_11_21 (fcL lm_11_22 (fcL lm_11_23 (fcL lm_27_8 (fcL lm_27_9 (fcL lm_27_10 (fcL lm_27_11 (fcL lm_7_23 (fcL lm_31_1 (fcL lm_31_2 (fcL lm_31_3 (fcL lm_31_4 (fcL lm_8_0 (fnL))))))))))))))))))))))))
set_option maxRecDepth 20000 in
theorem pq_wsX12_meeting_r2 : ∀ w ∈ wsX12_meeting_r2, w ∈ wsL_law := fcL lm_27_12 (fcL lm_27_13 (fcL lm_27_14 (fcL lm_27_15 (fcL lm_7_12 (fcL lm_15_21 (fcL lm_15_22 (fcL lm_15_23 (fcL lm_16_0 (fcL lm_16_1 (fcL lm_16_2 (fcL lm_16_3 (fcL lm_16_4 (fcL lm_16_5 (fcL lm_16_6 (fcL lm_7_6 (fcL lm_7_7 (fcL lm_8_13 (fcL lm_7_8 (fcL lm_8_15 (fcL lm_8_14 (fcL lm_8_16 (fcL lm_7_9 (fcL lm_16_7 (fnL))))))))))))))))))))))))
set_option maxRecDepth 20000 in
theorem pq_wsX12_meeting_r3 : ∀ w ∈ wsX12_meeting_r3, w ∈ wsL_law := fcL lm_16_8 (fcL lm_16_9 (fcL lm_16_10 (fcL lm_16_11 (fcL lm_16_12 (fcL lm_7_13 (fcL lm_7_14 (fcL lm_7_11 (fcL lm_7_10 (fcL lm_16_13 (fcL lm_10_19 (fcL lm_10_20 (fcL lm_10_21 (fcL lm_16_14 (fcL lm_10_23 (fcL lm_11_0 (fcL lm_16_15 (fcL lm_16_16 (fcL lm_16_17 (fcL lm_16_18 (fcL lm_16_19 (fcL lm_16_20 (fcL lm_16_21 (fcL lm_16_22 (fnL))))))))))))))))))))))))
set_option maxRecDepth 20000 in
theorem pq_wsX12_meeting_r4 : ∀ w ∈ wsX12_meeting_r4, w ∈ wsL_law := fcL lm_16_23 (fcL lm_17_0 (fcL lm_17_1 (fcL lm_17_2 (fcL lm_17_3 (fcL lm_17_4 (fcL lm_17_5 (fcL lm_17_6 (fcL lm_27_16 (fcL lm_27_17 (fcL lm_27_18 (fcL lm_27_19 (fcL lm_7_18 (fcL lm_7_21 (fcL lm_7_20 (fcL lm_27_20 (fcL lm_27_21 (fcL lm_27_22 (fcL lm_27_23 (fcL lm_7_22 (fcL lm_17_7 (fcL lm_17_8 (fcL lm_17_9 (fcL lm_17_10 (fnL))))))))))))))))))))))))
set_option maxRecDepth 20000 in
theorem pq_wsX12_meeting_r5 : ∀ w ∈ wsX12_meeting_r5, w ∈ wsL_law := fcL lm_17_11 (fcL lm_15_7 (fcL lm_15_8 (fcL lm_7_15 (fcL lm_17_12 (fcL lm_17_13 (fcL lm_17_14 (fcL lm_17_15 (fcL lm_17_16 (fcL lm_28_0 (fcL lm_28_1 (fcL lm_28_2 (fcL lm_28_3 (fcL lm_8_18 (fcL lm_8_19 (fcL lm_18_13 (fcL lm_31_5 (fcL lm_31_6 (fcL lm_31_7 (fcL lm_31_8 (fnL))))))))))))))))))))
set_option maxRecDepth 20000 in
theorem pq_wsX11_pass_r1 : ∀ w ∈ wsX11_pass_r1, w ∈ wsL_law := fcL lm_2_4 (fcL lm_31_13 (fcL lm_31_14 (fcL lm_32_14 (fcL lm_9_21 (fcL lm_9_22 (fcL lm_1_2 (fcL lm_9_23 (fcL lm_32_15 (fcL lm_32_16 (fcL lm_32_17 (fcL lm_2_3 (fcL lm_32_18 (fcL lm_32_19 (fcL lm_15_7 (fcL lm_10_20 (fcL lm_15_8 (fcL lm_5_21 (fcL lm_5_12 (fcL lm_5_23 (fcL lm_5_13 (fcL lm_5_14 (fcL lm_32_20 (fcL lm_32_21 (fnL))))))))))))))))))))))))
set_option maxRecDepth 20000 in
theorem pq_wsX11_pass_r2 : ∀ w ∈ wsX11_pass_r2, w ∈ wsL_law := fcL lm_32_22 (fcL lm_32_23 (fcL lm_10_19 (fcL lm_10_21 (fcL lm_33_0 (fcL lm_10_23 (fcL lm_11_0 (fcL lm_33_1 (fcL lm_33_2 (fcL lm_33_3 (fcL lm_33_4 (fcL lm_33_5 (fcL lm_33_6 (fcL lm_33_7 (fcL lm_33_8 (fcL lm_33_9 (fcL lm_33_10 (fcL lm_33_11 (fcL lm_33_12 (fcL lm_33_13 (fcL lm_33_14 (fcL lm_33_15 (fcL lm_33_16 (fcL lm_33_17 (fnL))))))))))))))))))))))))
set_option maxRecDepth 20000 in
theorem pq_wsX11_pass_r3 : ∀ w ∈ wsX11_pass_r3, w ∈ wsL_law := fcL lm_33_18 (fcL lm_33_19 (fcL lm_33_20 (fcL lm_33_21 (fnL))))
set_option maxRecDepth 20000 in
theorem pq_wsX11_back_r1 : ∀ w ∈ wsX11_back_r1, w ∈ wsL_law := fcL lm_2_4 (fcL lm_31_14 (fcL lm_32_14 (fcL lm_32_15 (fcL lm_32_16 (fcL lm_32_17 (fcL lm_2_3 (fcL lm_32_18 (fcL lm_32_19 (fcL lm_15_7 (fcL lm_10_20 (fcL lm_15_8 (fcL lm_5_21 (fcL lm_5_12 (fcL lm_5_23 (fcL lm_5_13 (fcL lm_5_14 (fcL lm_32_20 (fcL lm_32_21 (fcL lm_32_22 (fcL lm_32_23 (fcL lm_10_19 (fcL lm_10_21 (fcL lm_33_0 (fnL))))))))))))))))))))))))
set_option maxRecDepth 20000 in
theorem pq_wsX11_back_r2 : ∀ w ∈ wsX11_back_r2, w ∈ wsL_law := fcL lm_10_23 (fcL lm_11_0 (fcL lm_33_1 (fcL lm_33_2 (fcL lm_33_3 (fcL lm_33_4 (fcL lm_33_5 (fcL lm_33_6 (fcL lm_33_7 (fcL lm_33_8 (fcL lm_33_9 (fcL lm_33_10 (fcL lm_33_11 (fcL lm_33_12 (fcL lm_33_13 (fcL lm_33_14 (fcL lm_33_15 (fcL lm_33_16 (fcL lm_33_17 (fcL lm_33_18 (fcL lm_33_19 (fcL lm_33_20 (fcL lm_33_21 (fnL)))))))))))))))))))))))
set_option maxRecDepth 20000 in
theorem pq_wsX12_free_r1 : ∀ w ∈ wsX12_free_r1, w ∈ wsL_law := fcL lm_11_16 (fcL lm_8_23 (fcL lm_36_7 (fcL lm_36_8 (fcL lm_36_9 (fcL lm_1_5 (fcL lm_36_10 (fcL lm_36_11 (fcL lm_9_11 (fcL lm_8_4 (fcL lm_36_12 (fcL lm_36_13 (fcL lm_36_14 (fcL lm_36_15 (fcL lm_8_21 (fcL lm_36_16 (fcL lm_36_17 (fcL lm_36_18 (fcL lm_36_19 (fcL lm_17_11 (fcL lm_15_7 (fcL lm_10_20 (fcL lm_15_8 (fcL lm_8_22 (fnL))))))))))))))))))))))))
set_option maxRecDepth 20000 in
theorem pq_wsX12_free_r2 : ∀ w ∈ wsX12_free_r2, w ∈ wsL_law := fcL lm_36_20 (fcL lm_36_21 (fcL lm_36_22 (fcL lm_36_23 (fnL))))
set_option maxRecDepth 20000 in
theorem pq_wsX11_alike_r1 : ∀ w ∈ wsX11_alike_r1, w ∈ wsL_law := fcL lm_2_4 (fcL lm_31_14 (fcL lm_9_21 (fcL lm_9_22 (fcL lm_1_2 (fcL lm_9_23 (fcL lm_37_4 (fcL lm_37_5 (fcL lm_37_6 (fcL lm_2_3 (fcL lm_37_7 (fcL lm_5_15 (fcL lm_5_22 (fcL lm_5_11 (fcL lm_6_0 (fcL lm_6_1 (fcL lm_6_2 (fcL lm_33_1 (fcL lm_33_2 (fcL lm_33_3 (fcL lm_32_19 (fcL lm_15_7 (fcL lm_10_20 (fcL lm_15_8 (fnL))))))))))))))))))))))))
set_option maxRecDepth 20000 in
theorem pq_wsX11_alike_r2 : ∀ w ∈ wsX11_alike_r2, w ∈ wsL_law := fcL lm_33_4 (fcL lm_33_5 (fcL lm_33_6 (fcL lm_33_7 (fcL lm_33_8 (fcL lm_33_9 (fcL lm_33_10 (fcL lm_33_11 (fcL lm_33_12 (fcL lm_33_13 (fcL lm_33_14 (fcL lm_33_15 (fcL lm_33_16 (fcL lm_33_17 (fcL lm_33_18 (fcL lm_33_19 (fcL lm_33_20 (fcL lm_33_21 (fcL lm_36_0 (fcL lm_36_1 (fcL lm_36_2 (fnL)))))))))))))))))))))
set_option maxRecDepth 20000 in
theorem pq_wsX12_alike_r1 : ∀ w ∈ wsX12_alike_r1, w ∈ wsL_law := fcL lm_11_16 (fcL lm_9_11 (fcL lm_8_23 (fcL lm_11_21 (fcL lm_11_22 (fcL lm_1_5 (fcL lm_11_23 (fcL lm_36_7 (fcL lm_36_8 (fcL lm_36_9 (fcL lm_36_10 (fcL lm_36_11 (fcL lm_8_4 (fcL lm_36_12 (fcL lm_36_13 (fcL lm_36_14 (fcL lm_36_15 (fcL lm_8_21 (fcL lm_36_16 (fcL lm_36_17 (fcL lm_36_18 (fcL lm_36_19 (fcL lm_17_11 (fcL lm_15_7 (fnL))))))))))))))))))))))))
set_option maxRecDepth 20000 in
theorem pq_wsX12_alike_r2 : ∀ w ∈ wsX12_alike_r2, w ∈ wsL_law := fcL lm_10_20 (fcL lm_15_8 (fcL lm_8_22 (fcL lm_36_20 (fcL lm_36_21 (fcL lm_36_22 (fcL lm_36_23 (fnL)))))))
set_option maxRecDepth 20000 in
theorem pq_wsX11_undo_r1 : ∀ w ∈ wsX11_undo_r1, w ∈ wsL_law := fcL lm_2_4 (fcL lm_2_20 (fcL lm_31_17 (fcL lm_37_16 (fcL lm_37_17 (fcL lm_37_18 (fcL lm_37_19 (fcL lm_2_3 (fcL lm_37_20 (fcL lm_5_23 (fcL lm_37_21 (fcL lm_37_22 (fcL lm_37_23 (fcL lm_38_0 (fcL lm_5_21 (fcL lm_5_16 (fcL lm_38_1 (fcL lm_38_2 (fcL lm_38_3 (fcL lm_38_4 (fcL lm_5_14 (fcL lm_38_5 (fcL lm_34_7 (fcL lm_10_20 (fnL))))))))))))))))))))))))
set_option maxRecDepth 20000 in
theorem pq_wsX11_undo_r2 : ∀ w ∈ wsX11_undo_r2, w ∈ wsL_law := fcL lm_34_8 (fcL lm_38_6 (fcL lm_35_21 (fcL lm_35_22 (fcL lm_35_23 (fcL lm_36_0 (fcL lm_36_1 (fcL lm_36_2 (fcL lm_38_7 (fcL lm_32_16 (fcL lm_32_17 (fcL lm_32_18 (fcL lm_32_19 (fcL lm_15_7 (fcL lm_15_8 (fcL lm_5_12 (fcL lm_5_13 (fcL lm_32_20 (fcL lm_32_21 (fcL lm_32_22 (fcL lm_32_23 (fcL lm_10_19 (fcL lm_10_21 (fcL lm_33_0 (fnL))))))))))))))))))))))))
set_option maxRecDepth 20000 in
theorem pq_wsX11_undo_r3 : ∀ w ∈ wsX11_undo_r3, w ∈ wsL_law := fcL lm_10_23 (fcL lm_11_0 (fcL lm_33_1 (fcL lm_33_2 (fcL lm_33_3 (fcL lm_33_4 (fcL lm_33_5 (fcL lm_33_6 (fcL lm_33_7 (fcL lm_33_8 (fcL lm_33_9 (fcL lm_33_10 (fcL lm_33_11 (fcL lm_33_12 (fcL lm_33_13 (fcL lm_33_14 (fcL lm_33_15 (fcL lm_33_16 (fcL lm_33_17 (fcL lm_33_18 (fcL lm_33_19 (fcL lm_33_20 (fcL lm_33_21 (fcL lm_38_8 (fnL))))))))))))))))))))))))
set_option maxRecDepth 20000 in
theorem pq_wsX11_undo_r4 : ∀ w ∈ wsX11_undo_r4, w ∈ wsL_law := fcL lm_38_9 (fcL lm_38_10 (fcL lm_2_19 (fcL lm_38_11 (fcL lm_38_12 (fcL lm_7_1 (fnL))))))
set_option maxRecDepth 20000 in
theorem pq_wsX12_undo_r1 : ∀ w ∈ wsX12_undo_r1, w ∈ wsL_law := fcL lm_11_16 (fcL lm_38_17 (fcL lm_8_2 (fcL lm_8_12 (fcL lm_8_23 (fcL lm_32_0 (fcL lm_38_18 (fcL lm_38_19 (fcL lm_38_20 (fcL lm_1_5 (fcL lm_38_21 (fcL lm_38_22 (fcL lm_9_1 (fcL lm_9_3 (fcL lm_38_23 (fcL lm_39_0 (fcL lm_39_1 (fcL lm_39_2 (fcL lm_39_3 (fcL lm_39_4 (fcL lm_39_5 (fcL lm_39_6 (fcL lm_39_7 (fcL lm_39_8 (fnL))))))))))))))))))))))))
set_option maxRecDepth 20000 in
theorem pq_wsX12_undo_r2 : ∀ w ∈ wsX12_undo_r2, w ∈ wsL_law := fcL lm_39_9 (fcL lm_39_10 (fcL lm_39_11 (fcL lm_39_12 (fcL lm_39_13 (fcL lm_39_14 (fcL lm_39_15 (fcL lm_39_16 (fcL lm_39_17 (fcL lm_39_18 (fcL lm_39_19 (fcL lm_39_20 (fcL lm_39_21 (fcL lm_39_22 (fcL lm_39_23 (fcL lm_40_0 (fcL lm_17_11 (fcL lm_15_7 (fcL lm_10_20 (fcL lm_15_8 (fcL lm_40_1 (fcL lm_40_2 (fcL lm_40_3 (fcL lm_40_4 (fnL))))))))))))))))))))))))
set_option maxRecDepth 20000 in
theorem pq_wsX12_undo_r3 : ∀ w ∈ wsX12_undo_r3, w ∈ wsL_law := fcL lm_40_5 (fcL lm_16_14 (fcL lm_10_23 (fcL lm_11_0 (fcL lm_9_0 (fcL lm_9_11 (fcL lm_8_4 (fcL lm_40_6 (fcL lm_40_7 (fcL lm_40_8 (fcL lm_40_9 (fcL lm_36_7 (fcL lm_36_8 (fcL lm_36_9 (fcL lm_36_10 (fcL lm_36_11 (fcL lm_36_12 (fcL lm_36_13 (fcL lm_36_14 (fcL lm_36_15 (fcL lm_8_21 (fcL lm_36_16 (fcL lm_36_17 (fcL lm_36_18 (fnL))))))))))))))))))))))))
set_option maxRecDepth 20000 in
theorem pq_wsX12_undo_r4 : ∀ w ∈ wsX12_undo_r4, w ∈ wsL_law := fcL lm_36_19 (fcL lm_8_22 (fcL lm_36_20 (fcL lm_36_21 (fcL lm_36_22 (fcL lm_36_23 (fnL))))))
set_option maxRecDepth 20000 in
theorem pq_wsX11_cast_r1 : ∀ w ∈ wsX11_cast_r1, w ∈ wsL_law := fcL lm_2_8 (fcL lm_2_20 (fcL lm_9_21 (fcL lm_9_22 (fcL lm_1_2 (fcL lm_9_23 (fcL lm_41_7 (fcL lm_41_8 (fcL lm_41_9 (fcL lm_2_7 (fcL lm_41_10 (fcL lm_41_11 (fcL lm_6_6 (fcL lm_41_12 (fcL lm_6_7 (fcL lm_41_13 (fcL lm_41_14 (fcL lm_41_15 (fcL lm_41_16 (fcL lm_41_17 (fcL lm_41_18 (fcL lm_41_19 (fcL lm_41_20 (fcL lm_41_21 (fnL))))))))))))))))))))))))
set_option maxRecDepth 20000 in
theorem pq_wsX11_cast_r2 : ∀ w ∈ wsX11_cast_r2, w ∈ wsL_law := fcL lm_41_22 (fcL lm_41_23 (fcL lm_6_8 (fcL lm_42_0 (fcL lm_42_1 (fcL lm_42_2 (fcL lm_42_3 (fcL lm_42_4 (fcL lm_38_9 (fcL lm_38_10 (fcL lm_2_19 (fcL lm_38_11 (fcL lm_38_12 (fcL lm_7_1 (fnL))))))))))))))
set_option maxRecDepth 20000 in
theorem pq_wsX12_cast_r1 : ∀ w ∈ wsX12_cast_r1, w ∈ wsL_law := fcL lm_11_16 (fcL lm_9_4 (fcL lm_31_22 (fcL lm_42_9 (fcL lm_8_7 (fcL lm_16_13 (fcL lm_10_19 (fcL lm_10_20 (fcL lm_10_21 (fcL lm_8_12 (fcL lm_32_0 (fcL lm_11_21 (fcL lm_11_22 (fcL lm_1_5 (fcL lm_11_23 (fcL lm_42_10 (fcL lm_42_11 (fcL lm_42_12 (fcL lm_42_13 (fcL lm_9_5 (fcL lm_42_14 (fcL lm_42_15 (fcL lm_42_16 (fcL lm_42_17 (fnL))))))))))))))))))))))))
set_option maxRecDepth 20000 in
theorem pq_wsX12_cast_r2 : ∀ w ∈ wsX12_cast_r2, w ∈ wsL_law := fcL lm_42_18 (fcL lm_42_19 (fcL lm_42_20 (fcL lm_42_21 (fcL lm_42_22 (fcL lm_42_23 (fnL))))))
set_option maxRecDepth 20000 in
theorem pq_wsL_reach_r1 : ∀ w ∈ wsL_reach_r1, w ∈ wsL_law := fcL lm_18_18 (fcL lm_43_3 (fcL lm_43_4 (fcL lm_43_5 (fcL lm_1_2 (fcL lm_43_6 (fcL lm_18_23 (fcL lm_19_0 (fcL lm_1_16 (fcL lm_9_17 (fcL lm_13_10 (fcL lm_13_11 (fcL lm_43_7 (fcL lm_2_12 (fcL lm_2_20 (fcL lm_12_10 (fcL lm_12_11 (fcL lm_12_12 (fcL lm_12_13 (fcL lm_12_8 (fcL lm_12_14 (fcL lm_12_15 (fcL lm_12_16 (fcL lm_12_17 (fnL))))))))))))))))))))))))
set_option maxRecDepth 20000 in
theorem pq_wsL_reach_r2 : ∀ w ∈ wsL_reach_r2, w ∈ wsL_law := fcL lm_9_16 (fcL lm_9_21 (fcL lm_9_22 (fcL lm_9_23 (fcL lm_43_8 (fcL lm_43_9 (fcL lm_43_10 (fcL lm_43_11 (fcL lm_43_12 (fcL lm_43_13 (fcL lm_41_14 (fcL lm_41_15 (fcL lm_41_16 (fcL lm_41_17 (fcL lm_41_18 (fcL lm_41_19 (fcL lm_19_7 (fcL lm_19_8 (fcL lm_19_9 (fcL lm_4_0 (fcL lm_19_10 (fcL lm_13_16 (fcL lm_4_15 (fcL lm_43_14 (fnL))))))))))))))))))))))))
set_option maxRecDepth 20000 in
theorem pq_wsL_reach_r3 : ∀ w ∈ wsL_reach_r3, w ∈ wsL_law := fcL lm_30_12 (fcL lm_30_13 (fcL lm_3_4 (fcL lm_30_14 (fcL lm_10_4 (fcL lm_14_7 (fcL lm_11_9 (fcL lm_14_8 (fcL lm_14_9 (fcL lm_11_10 (fcL lm_11_11 (fcL lm_4_5 (fcL lm_4_1 (fcL lm_3_15 (fcL lm_30_15 (fcL lm_23_21 (fcL lm_23_22 (fcL lm_23_23 (fcL lm_3_16 (fcL lm_3_17 (fcL lm_3_18 (fcL lm_3_19 (fcL lm_3_20 (fcL lm_3_21 (fnL))))))))))))))))))))))))
set_option maxRecDepth 20000 in
theorem pq_wsL_reach_r4 : ∀ w ∈ wsL_reach_r4, w ∈ wsL_law := fcL lm_30_16 (fcL lm_30_17 (fcL lm_30_18 (fcL lm_30_19 (fcL lm_4_9 (fcL lm_30_20 (fcL lm_4_10 (fcL lm_4_11 (fcL lm_4_12 (fcL lm_4_13 (fcL lm_4_14 (fcL lm_43_15 (fcL lm_43_16 (fcL lm_43_17 (fcL lm_2_11 (fcL lm_43_18 (fcL lm_43_19 (fcL lm_6_12 (fcL lm_43_20 (fcL lm_43_21 (fcL lm_43_22 (fcL lm_43_23 (fcL lm_44_0 (fcL lm_44_1 (fnL))))))))))))))))))))))))
set_option maxRecDepth 20000 in
theorem pq_wsL_reach_r5 : ∀ w ∈ wsL_reach_r5, w ∈ wsL_law := fcL lm_44_2 (fcL lm_44_3 (fcL lm_44_4 (fcL lm_44_5 (fcL lm_44_6 (fcL lm_6_13 (fcL lm_44_7 (fcL lm_44_8 (fcL lm_44_9 (fcL lm_44_10 (fcL lm_44_11 (fcL lm_44_12 (fcL lm_44_13 (fcL lm_44_14 (fcL lm_44_15 (fcL lm_44_16 (fcL lm_10_6 (fcL lm_10_7 (fcL lm_10_8 (fcL lm_10_9 (fcL lm_10_10 (fcL lm_10_11 (fcL lm_10_12 (fcL lm_10_13 (fnL))))))))))))))))))))))))
set_option maxRecDepth 20000 in
theorem pq_wsL_reach_r6 : ∀ w ∈ wsL_reach_r6, w ∈ wsL_law := fcL lm_10_14 (fcL lm_10_15 (fcL lm_10_16 (fcL lm_10_17 (fcL lm_10_18 (fcL lm_10_19 (fcL lm_10_20 (fcL lm_10_21 (fcL lm_10_22 (fcL lm_10_23 (fcL lm_11_0 (fcL lm_11_1 (fcL lm_11_2 (fcL lm_10_20 (fcL lm_11_4 (fcL lm_44_17 (fcL lm_44_18 (fcL lm_44_19 (fcL lm_44_20 (fcL lm_44_21 (fcL lm_44_22 (fcL lm_44_23 (fcL lm_45_0 (fcL lm_38_9 (fnL))))))))))))))))))))))))
set_option maxRecDepth 20000 in
theorem pq_wsL_reach_r7 : ∀ w ∈ wsL_reach_r7, w ∈ wsL_law := fcL lm_38_10 (fcL lm_2_19 (fcL lm_38_11 (fcL lm_38_12 (fcL lm_7_1 (fnL)))))
set_option maxRecDepth 20000 in
theorem pq_wsX12_reach_r1 : ∀ w ∈ wsX12_reach_r1, w ∈ wsL_law := fcL lm_11_16 (fcL lm_45_5 (fcL lm_7_12 (fcL lm_7_23 (fcL lm_9_6 (fcL lm_45_6 (fcL lm_8_15 (fcL lm_8_16 (fcL lm_8_12 (fcL lm_32_0 (fcL lm_12_22 (fcL lm_12_23 (fcL lm_13_0 (fcL lm_1_5 (fcL lm_13_1 (fcL lm_7_6 (fcL lm_13_2 (fcL lm_13_3 (fcL lm_13_4 (fcL lm_13_5 (fcL lm_11_17 (fcL lm_11_21 (fcL lm_11_22 (fcL lm_11_23 (fnL))))))))))))))))))))))))
set_option maxRecDepth 20000 in
theorem pq_wsX12_reach_r2 : ∀ w ∈ wsX12_reach_r2, w ∈ wsL_law := fcL lm_45_7 (fcL lm_41_14 (fcL lm_41_15 (fcL lm_41_16 (fcL lm_41_17 (fcL lm_41_18 (fcL lm_41_19 (fcL lm_19_15 (fcL lm_19_16 (fcL lm_19_17 (fcL lm_19_18 (fcL lm_16_3 (fcL lm_16_4 (fcL lm_16_5 (fcL lm_16_6 (fcL lm_7_7 (fcL lm_8_13 (fcL lm_7_8 (fcL lm_8_14 (fcL lm_7_9 (fcL lm_16_7 (fcL lm_16_8 (fcL lm_16_9 (fcL lm_16_10 (fnL))))))))))))))))))))))))
set_option maxRecDepth 20000 in
theorem pq_wsX12_reach_r3 : ∀ w ∈ wsX12_reach_r3, w ∈ wsL_law := fcL lm_16_11 (fcL lm_16_12 (fcL lm_7_13 (fcL lm_7_14 (fcL lm_7_11 (fcL lm_7_10 (fcL lm_16_13 (fcL lm_10_19 (fcL lm_10_20 (fcL lm_10_21 (fcL lm_16_14 (fcL lm_10_23 (fcL lm_11_0 (fcL lm_16_19 (fcL lm_16_20 (fcL lm_16_21 (fcL lm_16_22 (fcL lm_16_23 (fcL lm_17_0 (fcL lm_17_1 (fcL lm_17_2 (fcL lm_31_1 (fcL lm_31_2 (fcL lm_31_3 (fnL))))))))))))))))))))))))
set_option maxRecDepth 20000 in
theorem pq_wsX12_reach_r4 : ∀ w ∈ wsX12_reach_r4, w ∈ wsL_law := fcL lm_31_4 (fcL lm_8_0 (fcL lm_39_9 (fcL lm_39_10 (fcL lm_39_11 (fcL lm_31_5 (fcL lm_31_6 (fcL lm_31_7 (fcL lm_31_8 (fnL)))))))))
set_option maxRecDepth 20000 in
theorem pq_wsX11_seen_r1 : ∀ w ∈ wsX11_seen_r1, w ∈ wsL_law := fcL lm_2_16 (fcL lm_31_16 (fcL lm_12_10 (fcL lm_12_11 (fcL lm_12_12 (fcL lm_1_2 (fcL lm_12_13 (fcL lm_1_16 (fcL lm_9_17 (fcL lm_12_8 (fcL lm_12_14 (fcL lm_12_15 (fcL lm_12_16 (fcL lm_12_17 (fcL lm_9_16 (fcL lm_9_21 (fcL lm_9_22 (fcL lm_9_23 (fcL lm_45_12 (fcL lm_45_13 (fcL lm_45_14 (fcL lm_2_15 (fcL lm_45_15 (fcL lm_6_17 (fnL))))))))))))))))))))))))
set_option maxRecDepth 20000 in
theorem pq_wsX11_seen_r2 : ∀ w ∈ wsX11_seen_r2, w ∈ wsL_law := fcL lm_45_16 (fcL lm_6_18 (fcL lm_6_19 (fcL lm_6_20 (fnL))))
set_option maxRecDepth 20000 in
theorem pq_wsX11_broken_r1 : ∀ w ∈ wsX11_broken_r1, w ∈ wsL_law := fcL lm_1_16 (fcL lm_43_7 (fcL lm_9_17 (fcL lm_2_16 (fcL lm_18_7 (fcL lm_2_20 (fcL lm_12_14 (fcL lm_12_15 (fcL lm_12_16 (fcL lm_1_2 (fcL lm_12_17 (fcL lm_9_16 (fcL lm_9_21 (fcL lm_9_22 (fcL lm_9_23 (fcL lm_43_14 (fcL lm_30_12 (fcL lm_30_13 (fcL lm_3_4 (fcL lm_30_14 (fcL lm_10_4 (fcL lm_14_7 (fcL lm_11_9 (fcL lm_14_8 (fnL))))))))))))))))))))))))
set_option maxRecDepth 20000 in
theorem pq_wsX11_broken_r2 : ∀ w ∈ wsX11_broken_r2, w ∈ wsL_law := fcL lm_14_9 (fcL lm_11_10 (fcL lm_11_11 (fcL lm_4_5 (fcL lm_4_1 (fcL lm_3_15 (fcL lm_30_15 (fcL lm_23_21 (fcL lm_23_22 (fcL lm_23_23 (fcL lm_3_16 (fcL lm_3_17 (fcL lm_3_18 (fcL lm_3_19 (fcL lm_3_20 (fcL lm_3_21 (fcL lm_30_16 (fcL lm_30_17 (fcL lm_30_18 (fcL lm_4_0 (fcL lm_30_19 (fcL lm_13_16 (fcL lm_4_9 (fcL lm_30_20 (fnL))))))))))))))))))))))))
set_option maxRecDepth 20000 in
theorem pq_wsX11_broken_r3 : ∀ w ∈ wsX11_broken_r3, w ∈ wsL_law := fcL lm_4_10 (fcL lm_4_11 (fcL lm_4_12 (fcL lm_4_13 (fcL lm_4_14 (fcL lm_4_15 (fcL lm_46_1 (fcL lm_46_2 (fcL lm_46_3 (fcL lm_2_15 (fcL lm_46_4 (fcL lm_46_5 (fcL lm_45_16 (fcL lm_6_17 (fcL lm_6_18 (fcL lm_46_6 (fcL lm_6_21 (fcL lm_46_7 (fcL lm_46_8 (fcL lm_28_17 (fcL lm_28_18 (fcL lm_28_19 (fcL lm_46_9 (fcL lm_25_17 (fnL))))))))))))))))))))))))
set_option maxRecDepth 20000 in
theorem pq_wsX11_broken_r4 : ∀ w ∈ wsX11_broken_r4, w ∈ wsL_law := fcL lm_25_18 (fcL lm_25_19 (fcL lm_25_20 (fcL lm_25_21 (fcL lm_25_22 (fcL lm_25_23 (fcL lm_26_0 (fcL lm_26_1 (fcL lm_26_2 (fcL lm_26_3 (fcL lm_10_18 (fcL lm_10_19 (fcL lm_10_20 (fcL lm_10_21 (fcL lm_10_22 (fcL lm_10_23 (fcL lm_11_0 (fcL lm_10_9 (fcL lm_26_4 (fcL lm_46_10 (fcL lm_26_6 (fcL lm_26_7 (fcL lm_26_8 (fcL lm_26_9 (fnL))))))))))))))))))))))))
set_option maxRecDepth 20000 in
theorem pq_wsX11_broken_r5 : ∀ w ∈ wsX11_broken_r5, w ∈ wsL_law := fcL lm_26_10 (fcL lm_26_11 (fcL lm_15_3 (fcL lm_15_4 (fcL lm_15_5 (fcL lm_15_6 (fcL lm_15_7 (fcL lm_15_8 (fcL lm_46_11 (fcL lm_46_12 (fcL lm_46_13 (fcL lm_46_14 (fcL lm_46_15 (fcL lm_46_16 (fcL lm_46_17 (fcL lm_41_14 (fcL lm_41_15 (fcL lm_41_16 (fcL lm_41_17 (fcL lm_41_18 (fcL lm_41_19 (fcL lm_46_18 (fcL lm_46_19 (fcL lm_46_20 (fnL))))))))))))))))))))))))
set_option maxRecDepth 20000 in
theorem pq_wsX11_broken_r6 : ∀ w ∈ wsX11_broken_r6, w ∈ wsL_law := fcL lm_46_21 (fcL lm_6_20 (fcL lm_46_22 (fcL lm_46_23 (fcL lm_47_0 (fcL lm_47_1 (fcL lm_47_2 (fcL lm_6_19 (fcL lm_47_3 (fcL lm_47_4 (fcL lm_10_15 (fcL lm_10_16 (fcL lm_10_17 (fcL lm_11_1 (fcL lm_11_2 (fcL lm_10_20 (fcL lm_11_4 (fcL lm_47_5 (fcL lm_38_9 (fcL lm_38_10 (fcL lm_2_19 (fcL lm_38_11 (fcL lm_38_12 (fcL lm_7_1 (fnL))))))))))))))))))))))))
set_option maxRecDepth 20000 in
theorem pq_wsX12_broken_r1 : ∀ w ∈ wsX12_broken_r1, w ∈ wsL_law := fcL lm_11_16 (fcL lm_7_12 (fcL lm_8_12 (fcL lm_32_0 (fcL lm_13_2 (fcL lm_13_3 (fcL lm_13_4 (fcL lm_1_5 (fcL lm_13_5 (fcL lm_11_17 (fcL lm_11_21 (fcL lm_11_22 (fcL lm_11_23 (fcL lm_31_1 (fcL lm_31_2 (fcL lm_31_3 (fcL lm_31_4 (fcL lm_8_0 (fcL lm_7_23 (fcL lm_45_7 (fcL lm_41_14 (fcL lm_41_15 (fcL lm_41_16 (fcL lm_41_17 (fnL))))))))))))))))))))))))
set_option maxRecDepth 20000 in
theorem pq_wsX12_broken_r2 : ∀ w ∈ wsX12_broken_r2, w ∈ wsL_law := fcL lm_41_18 (fcL lm_41_19 (fcL lm_47_10 (fcL lm_47_11 (fcL lm_47_12 (fcL lm_47_13 (fcL lm_31_23 (fcL lm_8_8 (fcL lm_8_9 (fcL lm_8_10 (fcL lm_8_11 (fcL lm_27_16 (fcL lm_27_17 (fcL lm_27_18 (fcL lm_27_19 (fcL lm_7_18 (fcL lm_7_21 (fcL lm_7_20 (fcL lm_16_13 (fcL lm_10_19 (fcL lm_10_20 (fcL lm_10_21 (fcL lm_16_14 (fcL lm_10_23 (fnL))))))))))))))))))))))))
set_option maxRecDepth 20000 in
theorem pq_wsX12_broken_r3 : ∀ w ∈ wsX12_broken_r3, w ∈ wsL_law := fcL lm_11_0 (fcL lm_27_20 (fcL lm_27_21 (fcL lm_27_22 (fcL lm_27_23 (fcL lm_7_22 (fcL lm_16_9 (fcL lm_16_10 (fcL lm_16_11 (fcL lm_16_12 (fcL lm_7_13 (fcL lm_7_14 (fcL lm_7_11 (fcL lm_7_10 (fcL lm_31_5 (fcL lm_31_6 (fcL lm_31_7 (fcL lm_31_8 (fnL))))))))))))))))))
