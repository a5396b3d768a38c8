set_option maxRecDepth 20000 in
theorem ggL_law_X11_init : GoodIn wsL_law wsX11_init := goodIn_m (fcL lm_1_9 (faL (faL (faL (faL (faL (faL (faL (faL (faL (faL (faL (faL (faL (pq_wsX11_init_r1) (faL (pq_wsX11_init_r2) (faL (pq_wsX11_init_r3) (faL (pq_wsX11_init_r4) (faL (pq_wsX11_init_r5) (pq_wsX11_init_r6)))))) (inlX8)) (inlX11)) (inlX10)) (inlX7)) (inlX0)) (inlX3)) (inlX4)) (inlX9)) (inlX5)) (inlX2)) (inlX1)) (inlX6))) (by decide +kernel)
set_option maxRecDepth 20000 in
theorem ggL_law_X12_init : GoodIn wsL_law wsX12_init := goodIn_m (fcL lm_7_4 (faL (faL (pq_wsX12_init_r1) (faL (pq_wsX12_init_r2) (pq_wsX12_init_r3))) (inlX12))) (by decide +kernel)
set_option maxRecDepth 20000 in
theorem ggL_law_X11_figure : GoodIn wsL_law wsX11_figure := goodIn_m (fcL lm_9_15 (faL (faL (faL (faL (faL (pq_wsX11_figure_r1) (faL (pq_wsX11_figure_r2) (pq_wsX11_figure_r3))) (inlX11)) (inlX8)) (inlX2)) (inlX1))) (by decide +kernel)
set_option maxRecDepth 20000 in
theorem ggL_law_X12_figure : GoodIn wsL_law wsX12_figure := goodIn_m (fcL lm_11_15 (faL (fcL lm_11_16 (fcL lm_11_17 (fcL lm_11_18 (fcL lm_11_19 (fcL lm_1_5 (fcL lm_11_20 (fcL lm_11_21 (fcL lm_11_22 (fcL lm_11_23 (fcL lm_12_0 (fcL lm_12_1 (fcL lm_12_2 (fcL lm_12_3 (fcL lm_7_6 (fcL lm_7_7 (fcL lm_7_8 (fcL lm_7_9 (fcL lm_7_10 (fcL lm_7_11 (fnL)))))))))))))))))))) (inlX12))) (by decide +kernel)
set_option maxRecDepth 20000 in
theorem ggL_law_X11_limb : GoodIn wsL_law wsX11_limb := goodIn_m (fcL lm_12_7 (faL (faL (faL (faL (faL (pq_wsX11_limb_r1) (faL (pq_wsX11_limb_r2) (pq_wsX11_limb_r3))) (inlX11)) (inlX8)) (inlX2)) (inlX1))) (by decide +kernel)
set_option maxRecDepth 20000 in
theorem ggL_law_X12_limb : GoodIn wsL_law wsX12_limb := goodIn_m (fcL lm_12_21 (faL (faL (pq_wsX12_limb_r1) (pq_wsX12_limb_r2)) (inlX12))) (by decide +kernel)
set_option maxRecDepth 20000 in
theorem ggL_law_X11_string : GoodIn wsL_law wsX11_string := goodIn_m (fcL lm_13_9 (faL (faL (faL (faL (faL (pq_wsX11_string_r1) (pq_wsX11_string_r2)) (inlX11)) (inlX8)) (inlX2)) (inlX1))) (by decide +kernel)
set_option maxRecDepth 20000 in
theorem ggL_law_X12_string : GoodIn wsL_law wsX12_string := goodIn_m (fcL lm_13_20 (faL (fcL lm_11_16 (fcL lm_7_12 (fcL lm_7_13 (fcL lm_7_14 (fcL lm_7_15 (fcL lm_12_22 (fcL lm_12_23 (fcL lm_13_0 (fcL lm_1_5 (fcL lm_13_1 (fcL lm_7_6 (fcL lm_13_2 (fcL lm_13_3 (fcL lm_13_4 (fcL lm_13_5 (fcL lm_11_17 (fcL lm_11_21 (fcL lm_11_22 (fcL lm_11_23 (fnL)))))))))))))))))))) (inlX12))) (by decide +kernel)
set_option maxRecDepth 20000 in
theorem ggL_law_X11_place : GoodIn wsL_law wsX11_place := goodIn_m (fcL lm_14_0 (faL (faL (faL (faL (pq_wsX11_place_r1) (pq_wsX11_place_r2)) (inlX11)) (inlX8)) (inlX2))) (by decide +kernel)
set_option maxRecDepth 20000 in
theorem ggL_law_X12_place : GoodIn wsL_law wsX12_place := goodIn_m (fcL lm_14_13 (faL (fcL lm_11_16 (fcL lm_14_14 (fcL lm_14_15 (fcL lm_7_16 (fcL lm_7_17 (fcL lm_7_23 (fcL lm_13_2 (fcL lm_13_3 (fcL lm_13_4 (fcL lm_1_5 (fcL lm_13_5 (fcL lm_11_17 (fcL lm_11_21 (fcL lm_11_22 (fcL lm_11_23 (fnL)))))))))))))))) (inlX12))) (by decide +kernel)
set_option maxRecDepth 20000 in
theorem ggL_law_X11_pull : GoodIn wsL_law wsX11_pull := goodIn_m (fcL lm_14_19 (faL (faL (faL (faL (faL (pq_wsX11_pull_r1) (faL (pq_wsX11_pull_r2) (faL (pq_wsX11_pull_r3) (pq_wsX11_pull_r4)))) (inlX11)) (inlX8)) (inlX2)) (inlX1))) (by decide +kernel)
set_option maxRecDepth 20000 in
theorem ggL_law_X12_pull : GoodIn wsL_law wsX12_pull := goodIn_m (fcL lm_15_16 (faL (faL (pq_wsX12_pull_r1) (faL (pq_wsX12_pull_r2) (faL (pq_wsX12_pull_r3) (pq_wsX12_pull_r4)))) (inlX12))) (by decide +kernel)
set_option maxRecDepth 20000 in
theorem ggL_law_X11_mend : GoodIn wsL_law wsX11_mend := goodIn_m (fcL lm_17_20 (faL (faL (faL (faL (faL (pq_wsX11_mend_r1) (faL (pq_wsX11_mend_r2) (pq_wsX11_mend_r3))) (inlX11)) (inlX8)) (inlX2)) (inlX1))) (by decide +kernel)
set_option maxRecDepth 20000 in
theorem ggL_law_X12_mend : GoodIn wsL_law wsX12_mend := goodIn_m (fcL lm_18_2 (faL (faL (pq_wsX12_mend_r1) (faL (pq_wsX12_mend_r2) (pq_wsX12_mend_r3))) (inlX12))) (by decide +kernel)
set_option maxRecDepth 20000 in
theorem ggL_law_X11_set : GoodIn wsL_law wsX11_set := goodIn_m (fcL lm_18_6 (faL (faL (fcL lm_1_16 (fcL lm_18_7 (fcL lm_18_8 (fcL lm_14_21 (fcL lm_9_21 (fcL lm_9_22 (fcL lm_1_2 (fcL lm_9_23 (fnL))))))))) (inlX11)) (inlX8))) (by decide +kernel)
set_option maxRecDepth 20000 in
theorem ggL_law_X12_set : GoodIn wsL_law wsX12_set := goodIn_m (fcL lm_18_12 (faL (fcL lm_11_16 (fcL lm_7_22 (fcL lm_18_13 (fcL lm_17_16 (fcL lm_11_21 (fcL lm_11_22 (fcL lm_1_5 (fcL lm_11_23 (fnL))))))))) (inlX12))) (by decide +kernel)
set_option maxRecDepth 20000 in
theorem ggL_law_L_of : GoodIn wsL_law wsL_of := goodIn_m (fcL lm_18_17 (faL (faL (faL (faL (faL (faL (faL (pq_wsL_of_r1) (pq_wsL_of_r2)) (inlX11)) (inlX8)) (inlX2)) (inlX1)) (inlX6)) (ixL))) (by decide +kernel)
set_option maxRecDepth 20000 in
theorem ggL_law_X12_of : GoodIn wsL_law wsX12_of := goodIn_m (fcL lm_19_14 (faL (faL (pq_wsX12_of_r1) (faL (pq_wsX12_of_r2) (pq_wsX12_of_r3))) (inlX12))) (by decide +kernel)
set_option maxRecDepth 20000 in
theorem ggL_law_X12_thrown : GoodIn wsL_law wsX12_thrown := goodIn_m (fcL lm_19_22 (faL (fcL lm_11_16 (fnL)) (inlX12))) (by decide +kernel)
set_option maxRecDepth 20000 in
theorem ggL_law_L_at : GoodIn wsL_law wsL_at := goodIn_m (fcL lm_20_1 (faL (faL (faL (faL (faL (pq_wsL_at_r1) (pq_wsL_at_r2)) (inlX11)) (inlX8)) (inlX2)) (ixL))) (by decide +kernel)
set_option maxRecDepth 20000 in
theorem ggL_law_X12_at : GoodIn wsL_law wsX12_at := goodIn_m (fcL lm_20_12 (faL (faL (pq_wsX12_at_r1) (faL (pq_wsX12_at_r2) (pq_wsX12_at_r3))) (inlX12))) (by decide +kernel)
set_option maxRecDepth 20000 in
theorem ggL_law_X11_pulled : GoodIn wsL_law wsX11_pulled := goodIn_m (fcL lm_20_16 (faL (faL (faL (faL (fcL lm_1_16 (fcL lm_9_17 (fcL lm_13_10 (fcL lm_20_17 (fcL lm_17_22 (fcL lm_17_21 (fcL lm_14_20 (fcL lm_20_18 (fcL lm_14_22 (fcL lm_14_23 (fcL lm_15_0 (fcL lm_1_2 (fcL lm_15_1 (fcL lm_13_11 (fcL lm_12_14 (fcL lm_12_15 (fcL lm_12_16 (fcL lm_12_17 (fcL lm_9_16 (fcL lm_9_21 (fcL lm_9_22 (fcL lm_9_23 (fnL))))))))))))))))))))))) (inlX11)) (inlX8)) (inlX2)) (inlX1))) (by decide +kernel)
set_option maxRecDepth 20000 in
theorem ggL_law_X12_pulled : GoodIn wsL_law wsX12_pulled := goodIn_m (fcL lm_20_22 (faL (fcL lm_11_16 (fcL lm_7_23 (fcL lm_7_13 (fcL lm_15_17 (fcL lm_15_18 (fcL lm_15_19 (fcL lm_1_5 (fcL lm_15_20 (fcL lm_7_12 (fcL lm_13_2 (fcL lm_13_3 (fcL lm_13_4 (fcL lm_13_5 (fcL lm_11_17 (fcL lm_11_21 (fcL lm_11_22 (fcL lm_11_23 (fnL)))))))))))))))))) (inlX12))) (by decide +kernel)
set_option maxRecDepth 20000 in
theorem ggL_law_X11_sign : GoodIn wsL_law wsX11_sign := goodIn_m (fcL lm_21_2 (faL (faL (fcL lm_1_20 (fcL lm_21_3 (fcL lm_21_4 (fcL lm_21_5 (fcL lm_21_6 (fcL lm_1_19 (fcL lm_21_7 (fcL lm_21_8 (fcL lm_5_0 (fnL)))))))))) (inlX11)) (inlX10))) (by decide +kernel)
set_option maxRecDepth 20000 in
theorem ggL_law_X12_sign : GoodIn wsL_law wsX12_sign := goodIn_m (fcL lm_21_12 (faL (fcL lm_11_16 (fcL lm_21_13 (fcL lm_8_1 (fnL)))) (inlX12))) (by decide +kernel)
set_option maxRecDepth 20000 in
theorem ggL_law_X11_end : GoodIn wsL_law wsX11_end := goodIn_m (fcL lm_21_17 (faL (faL (fcL lm_1_20 (fcL lm_21_3 (fcL lm_9_21 (fcL lm_9_22 (fcL lm_1_2 (fcL lm_9_23 (fnL))))))) (inlX11)) (inlX10))) (by decide +kernel)
set_option maxRecDepth 20000 in
theorem ggL_law_X12_end : GoodIn wsL_law wsX12_end := goodIn_m (fcL lm_21_21 (faL (fcL lm_11_16 (fcL lm_21_13 (fcL lm_11_21 (fcL lm_11_22 (fcL lm_1_5 (fcL lm_11_23 (fnL))))))) (inlX12))) (by decide +kernel)
set_option maxRecDepth 20000 in
theorem ggL_law_X11_score : GoodIn wsL_law wsX11_score := goodIn_m (fcL lm_22_1 (faL (faL (faL (faL (faL (faL (faL (faL (pq_wsX11_score_r1) (faL (pq_wsX11_score_r2) (pq_wsX11_score_r3))) (inlX11)) (inlX8)) (inlX2)) (inlX1)) (inlX10)) (inlX7)) (inlX6))) (by decide +kernel)
set_option maxRecDepth 20000 in
theorem ggL_law_X12_score : GoodIn wsL_law wsX12_score := goodIn_m (fcL lm_24_4 (faL (faL (pq_wsX12_score_r1) (pq_wsX12_score_r2)) (inlX12))) (by decide +kernel)
set_option maxRecDepth 20000 in
theorem ggL_law_X11_play : GoodIn wsL_law wsX11_play := goodIn_m (fcL lm_25_3 (faL (faL (faL (faL (faL (faL (pq_wsX11_play_r1) (faL (pq_wsX11_play_r2) (faL (pq_wsX11_play_r3) (faL (pq_wsX11_play_r4) (pq_wsX11_play_r5))))) (inlX11)) (inlX8)) (inlX2)) (inlX6)) (inlX1))) (by decide +kernel)
set_option maxRecDepth 20000 in
theorem ggL_law_X12_play : GoodIn wsL_law wsX12_play := goodIn_m (fcL lm_27_7 (faL (faL (pq_wsX12_play_r1) (faL (pq_wsX12_play_r2) (faL (pq_wsX12_play_r3) (faL (pq_wsX12_play_r4) (pq_wsX12_play_r5))))) (inlX12))) (by decide +kernel)
set_option maxRecDepth 20000 in
theorem ggL_law_X11_again : GoodIn wsL_law wsX11_again := goodIn_m (fcL lm_28_7 (faL (faL (faL (faL (faL (pq_wsX11_again_r1) (faL (pq_wsX11_again_r2) (pq_wsX11_again_r3))) (inlX11)) (inlX8)) (inlX2)) (inlX1))) (by decide +kernel)
set_option maxRecDepth 20000 in
theorem ggL_law_X12_again : GoodIn wsL_law wsX12_again := goodIn_m (fcL lm_28_23 (faL (fcL lm_11_16 (fcL lm_7_23 (fcL lm_11_17 (fcL lm_7_16 (fcL lm_7_17 (fnL)))))) (inlX12))) (by decide +kernel)
set_option maxRecDepth 20000 in
theorem ggL_law_X11_met : GoodIn wsL_law wsX11_met := goodIn_m (fcL lm_29_3 (faL (faL (faL (pq_wsX11_met_r1) (pq_wsX11_met_r2)) (inlX11)) (inlX8))) (by decide +kernel)
set_option maxRecDepth 20000 in
theorem ggL_law_X12_met : GoodIn wsL_law wsX12_met := goodIn_m (fcL lm_29_13 (faL (fcL lm_11_16 (fcL lm_7_23 (fcL lm_16_13 (fcL lm_10_19 (fcL lm_10_20 (fcL lm_10_21 (fcL lm_16_14 (fcL lm_10_23 (fcL lm_11_0 (fcL lm_29_14 (fcL lm_29_15 (fcL lm_29_16 (fcL lm_1_5 (fcL lm_29_17 (fcL lm_13_2 (fcL lm_13_3 (fcL lm_13_4 (fcL lm_13_5 (fcL lm_11_17 (fcL lm_11_21 (fcL lm_11_22 (fcL lm_11_23 (fnL))))))))))))))))))))))) (inlX12))) (by decide +kernel)
set_option maxRecDepth 20000 in
theorem ggL_law_X11_touch : GoodIn wsL_law wsX11_touch := goodIn_m (fcL lm_29_21 (faL (faL (faL (faL (pq_wsX11_touch_r1) (pq_wsX11_touch_r2)) (inlX11)) (inlX8)) (inlX2))) (by decide +kernel)
set_option maxRecDepth 20000 in
theorem ggL_law_X12_touch : GoodIn wsL_law wsX12_touch := goodIn_m (fcL lm_30_2 (faL (faL (pq_wsX12_touch_r1) (faL (pq_wsX12_touch_r2) (pq_wsX12_touch_r3))) (inlX12))) (by decide +kernel)
set_option maxRecDepth 20000 in
theorem ggL_law_X11_meeting : GoodIn wsL_law wsX11_meeting := goodIn_m (fcL lm_30_6 (faL (faL (faL (faL (faL (faL (pq_wsX11_meeting_r1) (faL (pq_wsX11_meeting_r2) (faL (pq_wsX11_meeting_r3) (faL (pq_wsX11_meeting_r4) (faL (pq_wsX11_meeting_r5) (pq_wsX11_meeting_r6)))))) (inlX11)) (inlX8)) (inlX2)) (inlX1)) (inlX6))) (by decide +kernel)
set_option maxRecDepth 20000 in
theorem ggL_law_X12_meeting : GoodIn wsL_law wsX12_meeting := goodIn_m (fcL lm_31_0 (faL (faL (pq_wsX12_meeting_r1) (faL (pq_wsX12_meeting_r2) (faL (pq_wsX12_meeting_r3) (faL (pq_wsX12_meeting_r4) (pq_wsX12_meeting_r5))))) (inlX12))) (by decide +kernel)
set_option maxRecDepth 20000 in
theorem ggL_law_X11_count : GoodIn wsL_law wsX11_count := goodIn_m (fcL lm_31_12 (faL (faL (faL (faL (faL (faL (faL (fcL lm_1_16 (fcL lm_9_16 (fcL lm_25_4 (fcL lm_2_4 (fcL lm_31_13 (fcL lm_31_14 (fcL lm_2_8 (fcL lm_31_15 (fcL lm_2_16 (fcL lm_31_16 (fcL lm_2_20 (fcL lm_31_17 (fcL lm_1_20 (fcL lm_21_3 (fnL))))))))))))))) (inlX11)) (inlX8)) (inlX0)) (inlX3)) (inlX9)) (inlX5)) (inlX10))) (by decide +kernel)
set_option maxRecDepth 20000 in
theorem ggL_law_X12_count : GoodIn wsL_law wsX12_count := goodIn_m (fcL lm_31_21 (faL (fcL lm_11_16 (fcL lm_11_17 (fcL lm_7_23 (fcL lm_8_2 (fcL lm_9_11 (fcL lm_31_22 (fcL lm_31_23 (fcL lm_32_0 (fcL lm_21_13 (fnL)))))))))) (inlX12))) (by decide +kernel)
set_option maxRecDepth 20000 in
theorem ggL_law_X11_bars : GoodIn wsL_law wsX11_bars := goodIn_m (fcL lm_32_4 (faL (faL (fcL lm_2_4 (fcL lm_9_21 (fcL lm_9_22 (fcL lm_1_2 (fcL lm_9_23 (fcL lm_32_5 (fcL lm_5_18 (fcL lm_5_19 (fcL lm_2_3 (fcL lm_5_20 (fcL lm_5_21 (fcL lm_5_22 (fcL lm_5_23 (fcL lm_5_12 (fcL lm_5_13 (fcL lm_5_14 (fcL lm_6_0 (fcL lm_6_1 (fcL lm_6_2 (fnL)))))))))))))))))))) (inlX11)) (inlX0))) (by decide +kernel)
set_option maxRecDepth 20000 in
theorem ggL_law_X12_bars : GoodIn wsL_law wsX12_bars := goodIn_m (fcL lm_32_9 (faL (fcL lm_11_16 (fcL lm_11_21 (fcL lm_11_22 (fcL lm_1_5 (fcL lm_11_23 (fcL lm_9_7 (fcL lm_9_8 (fcL lm_9_9 (fcL lm_9_10 (fcL lm_8_2 (fcL lm_9_11 (fcL lm_8_3 (fnL))))))))))))) (inlX12))) (by decide +kernel)
set_option maxRecDepth 20000 in
theorem ggL_law_X11_pass : GoodIn wsL_law wsX11_pass := goodIn_m (fcL lm_32_13 (faL (faL (faL (pq_wsX11_pass_r1) (faL (pq_wsX11_pass_r2) (pq_wsX11_pass_r3))) (inlX11)) (inlX0))) (by decide +kernel)
set_option maxRecDepth 20000 in
theorem ggL_law_X12_pass : GoodIn wsL_law wsX12_pass := goodIn_m (fcL lm_34_1 (faL (fcL lm_11_16 (fcL lm_9_11 (fcL lm_8_4 (fcL lm_8_5 (fcL lm_8_3 (fcL lm_17_11 (fcL lm_15_7 (fcL lm_10_20 (fcL lm_15_8 (fcL lm_8_6 (fcL lm_34_2 (fcL lm_34_3 (fcL lm_34_4 (fcL lm_1_5 (fcL lm_34_5 (fcL lm_34_6 (fcL lm_34_7 (fcL lm_34_8 (fcL lm_8_2 (fcL lm_34_9 (fcL lm_34_10 (fcL lm_34_11 (fcL lm_34_12 (fnL)))))))))))))))))))))))) (inlX12))) (by decide +kernel)
set_option maxRecDepth 20000 in
theorem ggL_law_X11_back : GoodIn wsL_law wsX11_back := goodIn_m (fcL lm_34_16 (faL (faL (faL (pq_wsX11_back_r1) (pq_wsX11_back_r2)) (inlX11)) (inlX0))) (by decide +kernel)
set_option maxRecDepth 20000 in
theorem ggL_law_X12_back : GoodIn wsL_law wsX12_back := goodIn_m (fcL lm_34_20 (faL (fcL lm_11_16 (fcL lm_9_11 (fcL lm_8_4 (fcL lm_34_9 (fcL lm_34_10 (fcL lm_34_11 (fcL lm_1_5 (fcL lm_34_12 (fcL lm_17_11 (fcL lm_15_7 (fcL lm_10_20 (fcL lm_15_8 (fcL lm_8_3 (fnL)))))))))))))) (inlX12))) (by decide +kernel)
set_option maxRecDepth 20000 in
theorem ggL_law_X11_bar : GoodIn wsL_law wsX11_bar := goodIn_m (fcL lm_35_0 (faL (faL (fcL lm_2_4 (fcL lm_31_13 (fcL lm_35_1 (fcL lm_9_21 (fcL lm_9_22 (fcL lm_1_2 (fcL lm_9_23 (fnL)))))))) (inlX11)) (inlX0))) (by decide +kernel)
set_option maxRecDepth 20000 in
theorem ggL_law_X12_bar : GoodIn wsL_law wsX12_bar := goodIn_m (fcL lm_35_5 (faL (fcL lm_11_16 (fcL lm_8_2 (fcL lm_8_3 (fcL lm_11_21 (fcL lm_11_22 (fcL lm_1_5 (fcL lm_11_23 (fnL)))))))) (inlX12))) (by decide +kernel)
set_option maxRecDepth 20000 in
theorem ggL_law_X11_wound : GoodIn wsL_law wsX11_wound := goodIn_m (fcL lm_35_9 (faL (faL (fcL lm_2_4 (fcL lm_31_13 (fcL lm_35_10 (fcL lm_9_21 (fcL lm_9_22 (fcL lm_1_2 (fcL lm_9_23 (fcL lm_35_11 (fcL lm_32_21 (fcL lm_2_3 (fcL lm_32_22 (fcL lm_32_23 (fcL lm_10_19 (fcL lm_10_20 (fcL lm_10_21 (fcL lm_33_0 (fcL lm_10_23 (fcL lm_11_0 (fnL))))))))))))))))))) (inlX11)) (inlX0))) (by decide +kernel)
set_option maxRecDepth 20000 in
theorem ggL_law_X12_wound : GoodIn wsL_law wsX12_wound := goodIn_m (fcL lm_35_15 (faL (fcL lm_11_16 (fcL lm_8_2 (fcL lm_9_11 (fcL lm_8_5 (fcL lm_8_6 (fcL lm_8_4 (fcL lm_11_21 (fcL lm_11_22 (fcL lm_1_5 (fcL lm_11_23 (fnL))))))))))) (inlX12))) (by decide +kernel)
set_option maxRecDepth 20000 in
theorem ggL_law_X11_free : GoodIn wsL_law wsX11_free := goodIn_m (fcL lm_35_19 (faL (faL (fcL lm_2_4 (fcL lm_35_20 (fcL lm_35_21 (fcL lm_35_22 (fcL lm_2_3 (fcL lm_35_23 (fcL lm_5_23 (fcL lm_5_14 (fcL lm_36_0 (fcL lm_36_1 (fcL lm_36_2 (fnL)))))))))))) (inlX11)) (inlX0))) (by decide +kernel)
set_option maxRecDepth 20000 in
theorem ggL_law_X12_free : GoodIn wsL_law wsX12_free := goodIn_m (fcL lm_36_6 (faL (faL (pq_wsX12_free_r1) (pq_wsX12_free_r2)) (inlX12))) (by decide +kernel)
set_option maxRecDepth 20000 in
theorem ggL_law_X11_alike : GoodIn wsL_law wsX11_alike := goodIn_m (fcL lm_37_3 (faL (faL (faL (pq_wsX11_alike_r1) (pq_wsX11_alike_r2)) (inlX11)) (inlX0))) (by decide +kernel)
set_option maxRecDepth 20000 in
theorem ggL_law_X12_alike : GoodIn wsL_law wsX12_alike := goodIn_m (fcL lm_37_11 (faL (faL (pq_wsX12_alike_r1) (pq_wsX12_alike_r2)) (inlX12))) (by decide +kernel)
set_option maxRecDepth 20000 in
theorem ggL_law_X11_undo : GoodIn wsL_law wsX11_undo := goodIn_m (fcL lm_37_15 (faL (faL (faL (faL (pq_wsX11_undo_r1) (faL (pq_wsX11_undo_r2) (faL (pq_wsX11_undo_r3) (pq_wsX11_undo_r4)))) (inlX11)) (inlX5)) (inlX0))) (by decide +kernel)
set_option maxRecDepth 20000 in
theorem ggL_law_X12_undo : GoodIn wsL_law wsX12_undo := goodIn_m (fcL lm_38_16 (faL (faL (pq_wsX12_undo_r1) (faL (pq_wsX12_undo_r2) (faL (pq_wsX12_undo_r3) (pq_wsX12_undo_r4)))) (inlX12))) (by decide +kernel)
set_option maxRecDepth 20000 in
theorem ggL_law_X11_scene : GoodIn wsL_law wsX11_scene := goodIn_m (fcL lm_40_13 (faL (faL (fcL lm_2_8 (fcL lm_31_15 (fcL lm_40_14 (fcL lm_9_21 (fcL lm_9_22 (fcL lm_1_2 (fcL lm_9_23 (fnL)))))))) (inlX11)) (inlX3))) (by decide +kernel)
set_option maxRecDepth 20000 in
theorem ggL_law_X12_scene : GoodIn wsL_law wsX12_scene := goodIn_m (fcL lm_40_18 (faL (fcL lm_11_16 (fcL lm_31_22 (fcL lm_8_7 (fcL lm_11_21 (fcL lm_11_22 (fcL lm_1_5 (fcL lm_11_23 (fnL)))))))) (inlX12))) (by decide +kernel)
set_option maxRecDepth 20000 in
theorem ggL_law_X11_clear : GoodIn wsL_law wsX11_clear := goodIn_m (fcL lm_40_22 (faL (faL (faL (fcL lm_2_8 (fcL lm_31_15 (fcL lm_2_16 (fcL lm_31_16 (fnL))))) (inlX11)) (inlX3)) (inlX9))) (by decide +kernel)
set_option maxRecDepth 20000 in
theorem ggL_law_X12_clear : GoodIn wsL_law wsX12_clear := goodIn_m (fcL lm_41_2 (faL (fcL lm_11_16 (fcL lm_31_22 (fcL lm_31_23 (fnL)))) (inlX12))) (by decide +kernel)
set_option maxRecDepth 20000 in
theorem ggL_law_X11_cast : GoodIn wsL_law wsX11_cast := goodIn_m (fcL lm_41_6 (faL (faL (faL (faL (pq_wsX11_cast_r1) (pq_wsX11_cast_r2)) (inlX11)) (inlX3)) (inlX5))) (by decide +kernel)
set_option maxRecDepth 20000 in
theorem ggL_law_X12_cast : GoodIn wsL_law wsX12_cast := goodIn_m (fcL lm_42_8 (faL (faL (pq_wsX12_cast_r1) (pq_wsX12_cast_r2)) (inlX12))) (by decide +kernel)
set_option maxRecDepth 20000 in
theorem ggL_law_L_reach : GoodIn wsL_law wsL_reach := goodIn_m (fcL lm_43_2 (faL (faL (faL (faL (faL (faL (faL (faL (pq_wsL_reach_r1) (faL (pq_wsL_reach_r2) (faL (pq_wsL_reach_r3) (faL (pq_wsL_reach_r4) (faL (pq_wsL_reach_r5) (faL (pq_wsL_reach_r6) (pq_wsL_reach_r7))))))) (inlX11)) (inlX8)) (inlX2)) (inlX1)) (inlX4)) (inlX5)) (ixL))) (by decide +kernel)
set_option maxRecDepth 20000 in
theorem ggL_law_X12_reach : GoodIn wsL_law wsX12_reach := goodIn_m (fcL lm_45_4 (faL (faL (pq_wsX12_reach_r1) (faL (pq_wsX12_reach_r2) (faL (pq_wsX12_reach_r3) (pq_wsX12_reach_r4)))) (inlX12))) (by decide +kernel)
set_option maxRecDepth 20000 in
theorem ggL_law_X11_seen : GoodIn wsL_law wsX11_seen := goodIn_m (fcL lm_45_11 (faL (faL (faL (faL (faL (pq_wsX11_seen_r1) (pq_wsX11_seen_r2)) (inlX11)) (inlX9)) (inlX8)) (inlX2))) (by decide +kernel)
set_option maxRecDepth 20000 in
theorem ggL_law_X12_seen : GoodIn wsL_law wsX12_seen := goodIn_m (fcL lm_45_20 (faL (fcL lm_11_16 (fcL lm_31_23 (fcL lm_8_8 (fcL lm_8_9 (fcL lm_8_10 (fcL lm_8_11 (fcL lm_12_22 (fcL lm_12_23 (fcL lm_13_0 (fcL lm_1_5 (fcL lm_13_1 (fcL lm_7_6 (fcL lm_13_2 (fcL lm_13_3 (fcL lm_13_4 (fcL lm_13_5 (fcL lm_11_17 (fcL lm_11_21 (fcL lm_11_22 (fcL lm_11_23 (fnL))))))))))))))))))))) (inlX12))) (by decide +kernel)
set_option maxRecDepth 20000 in
theorem ggL_law_X11_broken : GoodIn wsL_law wsX11_broken := goodIn_m (fcL lm_46_0 (faL (faL (faL (faL (faL (faL (faL (faL (pq_wsX11_broken_r1) (faL (pq_wsX11_broken_r2) (faL (pq_wsX11_broken_r3) (faL (pq_wsX11_broken_r4) (faL (pq_wsX11_broken_r5) (pq_wsX11_broken_r6)))))) (inlX11)) (inlX8)) (inlX2)) (inlX1)) (inlX9)) (inlX6)) (inlX5))) (by decide +kernel)
set_option maxRecDepth 20000 in
theorem ggL_law_X12_broken : GoodIn wsL_law wsX12_broken := goodIn_m (fcL lm_47_9 (faL (faL (pq_wsX12_broken_r1) (faL (pq_wsX12_broken_r2) (pq_wsX12_broken_r3))) (inlX12))) (by decide +kernel)
set_option maxRecDepth 20000 in
theorem ggL_law_L_row : GoodIn wsL_law wsL_row := goodIn_m (fcL lm_47_16 (faL (faL (faL (fcL lm_18_18 (fcL lm_47_17 (fcL lm_47_18 (fcL lm_47_19 (fcL lm_1_2 (fcL lm_47_20 (fcL lm_18_23 (fcL lm_19_0 (fcL lm_2_20 (fcL lm_31_17 (fcL lm_47_21 (fcL lm_9_21 (fcL lm_9_22 (fcL lm_9_23 (fnL))))))))))))))) (inlX11)) (inlX5)) (ixL))) (by decide +kernel)
set_option maxRecDepth 20000 in
theorem ggL_law_X12_row : GoodIn wsL_law wsX12_row := goodIn_m (fcL lm_48_1 (faL (fcL lm_11_16 (fcL lm_32_0 (fcL lm_8_12 (fcL lm_11_21 (fcL lm_11_22 (fcL lm_1_5 (fcL lm_11_23 (fcL lm_19_15 (fcL lm_19_16 (fcL lm_19_17 (fcL lm_19_18 (fnL)))))))))))) (inlX12))) (by decide +kernel)
set_option maxRecDepth 20000 in
theorem gL_law_X11_init : GoodIn wsL_law (wsX11_init) := ggL_law_X11_init
set_option maxRecDepth 20000 in
theorem gL_law_X12_init : GoodIn wsL_law (wsX12_init) := ggL_law_X12_init
set_option maxRecDepth 20000 in
theorem gL_law_X11_figure : GoodIn wsL_law (wsV RL 31 RX11 yX11_figure wsX11_figure) := goodIn_app (goodIn_of _ (by decide +kernel)) ggL_law_X11_figure
set_option maxRecDepth 20000 in
theorem gL_law_X12_figure : GoodIn wsL_law (wsV RL 34 RX12 yX12_figure wsX12_figure) := goodIn_app (goodIn_of _ (by decide +kernel)) ggL_law_X12_figure
set_option maxRecDepth 20000 in
theorem gL_law_X11_limb : GoodIn wsL_law (wsV RL 35 RX11 yX11_limb wsX11_limb) := goodIn_app (goodIn_of _ (by decide +kernel)) ggL_law_X11_limb
set_option maxRecDepth 20000 in
theorem gL_law_X12_limb : GoodIn wsL_law (wsV RL 39 RX12 yX12_limb wsX12_limb) := goodIn_app (goodIn_of _ (by decide +kernel)) ggL_law_X12_limb
set_option maxRecDepth 20000 in
theorem gL_law_X11_string : GoodIn wsL_law (wsV RL 40 RX11 yX11_string wsX11_string) := goodIn_app (goodIn_of _ (by decide +kernel)) ggL_law_X11_string
set_option maxRecDepth 20000 in
theorem gL_law_X12_string : GoodIn wsL_law (wsV RL 44 RX12 yX12_string wsX12_string) := goodIn_app (goodIn_of _ (by decide +kernel)) ggL_law_X12_string
set_option maxRecDepth 20000 in
theorem gL_law_X11_place : GoodIn wsL_law (wsV RL 45 RX11 yX11_place wsX11_place) := goodIn_app (goodIn_of _ (by decide +kernel)) ggL_law_X11_place
set_option maxRecDepth 20000 in
theorem gL_law_X12_place : GoodIn wsL_law (wsV RL 49 RX12 yX12_place wsX12_place) := goodIn_app (goodIn_of _ (by decide +kernel)) ggL_law_X12_place
set_option maxRecDepth 20000 in
theorem gL_law_X11_pull : GoodIn wsL_law (wsV RL 50 RX11 yX11_pull wsX11_pull) := goodIn_app (goodIn_of _ (by decide +kernel)) ggL_law_X11_pull
set_option maxRecDepth 20000 in
theorem gL_law_X12_pull : GoodIn wsL_law (wsV RL 53 RX12 yX12_pull wsX12_pull) := goodIn_app (goodIn_of _ (by decide +kernel)) ggL_law_X12_pull
set_option maxRecDepth 20000 in
theorem gL_law_X11_mend : GoodIn wsL_law (wsV RL 54 RX11 yX11_mend wsX11_mend) := goodIn_app (goodIn_of _ (by decide +kernel)) ggL_law_X11_mend
set_option maxRecDepth 20000 in
theorem gL_law_X12_mend : GoodIn wsL_law (wsV RL 58 RX12 yX12_mend wsX12_mend) := goodIn_app (goodIn_of _ (by decide +kernel)) ggL_law_X12_mend
set_option maxRecDepth 20000 in
theorem gL_law_X11_set : GoodIn wsL_law (wsV RL 59 RX11 yX11_set wsX11_set) := goodIn_app (goodIn_of _ (by decide +kernel)) ggL_law_X11_set
set_option maxRecDepth 20000 in
theorem gL_law_X12_set : GoodIn wsL_law (wsV RL 62 RX12 yX12_set wsX12_set) := goodIn_app (goodIn_of _ (by decide +kernel)) ggL_law_X12_set
set_option maxRecDepth 20000 in
theorem gL_law_L_of : GoodIn wsL_law (va_wsS RL 63 yL_of wsL_of) := goodIn_app (goodIn_of _ (by decide +kernel)) ggL_law_L_of
set_option maxRecDepth 20000 in
theorem gL_law_X12_of : GoodIn wsL_law (wsV RL 68 RX12 yX12_of wsX12_of) := goodIn_app (goodIn_of _ (by decide +kernel)) ggL_law_X12_of
set_option maxRecDepth 20000 in
theorem gL_law_X12_thrown : GoodIn wsL_law (wsV RL 69 RX12 yX12_thrown wsX12_thrown) := goodIn_app (goodIn_of _ (by decide +kernel)) ggL_law_X12_thrown
set_option maxRecDepth 20000 in
theorem gL_law_L_at : GoodIn wsL_law (va_wsS RL 73 yL_at wsL_at) := goodIn_app (goodIn_of _ (by decide +kernel)) ggL_law_L_at
set_option maxRecDepth 20000 in
theorem gL_law_X12_at : GoodIn wsL_law (wsV RL 76 RX12 yX12_at wsX12_at) := goodIn_app (goodIn_of _ (by decide +kernel)) ggL_law_X12_at
set_option maxRecDepth 20000 in
theorem gL_law_X11_pulled : GoodIn wsL_law (wsV RL 77 RX11 yX11_pulled wsX11_pulled) := goodIn_app (goodIn_of _ (by decide +kernel)) ggL_law_X11_pulled
set_option maxRecDepth 20000 in
theorem gL_law_X12_pulled : GoodIn wsL_law (wsV RL 80 RX12 yX12_pulled wsX12_pulled) := goodIn_app (goodIn_of _ (by decide +kernel)) ggL_law_X12_pulled
set_option maxRecDepth 20000 in
theorem gL_law_X11_sign : GoodIn wsL_law (wsV RL 81 RX11 yX11_sign wsX11_sign) := goodIn_app (goodIn_of _ (by decide +kernel)) ggL_law_X11_sign
set_option maxRecDepth 20000 in
theorem gL_law_X12_sign : GoodIn wsL_law (wsV RL 84 RX12 yX12_sign wsX12_sign) := goodIn_app (goodIn_of _ (by decide +kernel)) ggL_law_X12_sign
set_option maxRecDepth 20000 in
theorem gL_law_X11_end : GoodIn wsL_law (wsV RL 85 RX11 yX11_end wsX11_end) := goodIn_app (goodIn_of _ (by decide +kernel)) ggL_law_X11_end
set_option maxRecDepth 20000 in
theorem gL_law_X12_end : GoodIn wsL_law (wsV RL 89 RX12 yX12_end wsX12_end) := goodIn_app (goodIn_of _ (by decide +kernel)) ggL_law_X12_end
set_option maxRecDepth 20000 in
theorem gL_law_X11_score : GoodIn wsL_law (wsV RL 90 RX11 yX11_score wsX11_score) := goodIn_app (goodIn_of _ (by decide +kernel)) ggL_law_X11_score
set_option maxRecDepth 20000 in
theorem gL_law_X12_score : GoodIn wsL_law (wsV RL 93 RX12 yX12_score wsX12_score) := goodIn_app (goodIn_of _ (by decide +kernel)) ggL_law_X12_score
set_option maxRecDepth 20000 in
theorem gL_law_X11_play : GoodIn wsL_law (wsV RL 94 RX11 yX11_play wsX11_play) := goodIn_app (goodIn_of _ (by decide +kernel)) ggL_law_X11_play
set_option maxRecDepth 20000 in
theorem gL_law_X12_play : GoodIn wsL_law (wsV RL 97 RX12 yX12_play wsX12_play) := goodIn_app (goodIn_of _ (by decide +kernel)) ggL_law_X12_play
set_option maxRecDepth 20000 in
theorem gL_law_X11_again : GoodIn wsL_law (wsV RL 98 RX11 yX11_again wsX11_again) := goodIn_app (goodIn_of _ (by decide +kernel)) ggL_law_X11_again
set_option maxRecDepth 20000 in
theorem gL_law_X12_again : GoodIn wsL_law (wsV RL 101 RX12 yX12_again wsX12_again) := goodIn_app (goodIn_of _ (by decide +kernel)) ggL_law_X12_again
set_option maxRecDepth 20000 in
theorem gL_law_X11_met : GoodIn wsL_law (wsV RL 102 RX11 yX11_met wsX11_met) := goodIn_app (goodIn_of _ (by decide +kernel)) ggL_law_X11_met
set_option maxRecDepth 20000 in
theorem gL_law_X12_met : GoodIn wsL_law (wsV RL 105 RX12 yX12_met wsX12_met) := goodIn_app (goodIn_of _ (by decide +kernel)) ggL_law_X12_met
set_option maxRecDepth 20000 in
theorem gL_law_X11_touch : GoodIn wsL_law (wsV RL 106 RX11 yX11_touch wsX11_touch) := goodIn_app (goodIn_of _ (by decide +kernel)) ggL_law_X11_touch
set_option maxRecDepth 20000 in
theorem gL_law_X12_touch : GoodIn wsL_law (wsV RL 109 RX12 yX12_touch wsX12_touch) := goodIn_app (goodIn_of _ (by decide +kernel)) ggL_law_X12_touch
set_option maxRecDepth 20000 in
theorem gL_law_X11_meeting : GoodIn wsL_law (wsV RL 110 RX11 yX11_meeting wsX11_meeting) := goodIn_app (goodIn_of _ (by decide +kernel)) ggL_law_X11_meeting
set_option maxRecDepth 20000 in
theorem gL_law_X12_meeting : GoodIn wsL_law (wsV RL 113 RX12 yX12_meeting wsX12_meeting) := goodIn_app (goodIn_of _ (by decide +kernel)) ggL_law_X12_meeting
set_option maxRecDepth 20000 in
theorem gL_law_X11_count : GoodIn wsL_law (wsV RL 114 RX11 yX11_count wsX11_count) := goodIn_app (goodIn_of _ (by decide +kernel)) ggL_law_X11_count
set_option maxRecDepth 20000 in
theorem gL_law_X12_count : GoodIn wsL_law (wsV RL 117 RX12 yX12_count wsX12_count) := goodIn_app (goodIn_of _ (by decide +kernel)) ggL_law_X12_count
set_option maxRecDepth 20000 in
theorem gL_law_X11_bars : GoodIn wsL_law (wsV RL 118 RX11 yX11_bars wsX11_bars) := goodIn_app (goodIn_of _ (by decide +kernel)) ggL_law_X11_bars
set_option maxRecDepth 20000 in
theorem gL_law_X12_bars : GoodIn wsL_law (wsV RL 121 RX12 yX12_bars wsX12_bars) := goodIn_app (goodIn_of _ (by decide +kernel)) ggL_law_X12_bars
set_option maxRecDepth 20000 in
theorem gL_law_X11_pass : GoodIn wsL_law (wsV RL 122 RX11 yX11_pass wsX11_pass) := goodIn_app (goodIn_of _ (by decide +kernel)) ggL_law_X11_pass
set_option maxRecDepth 20000 in
theorem gL_law_X12_pass : GoodIn wsL_law (wsV RL 125 RX12 yX12_pass wsX12_pass) := goodIn_app (goodIn_of _ (by decide +kernel)) ggL_law_X12_pass
set_option maxRecDepth 20000 in
theorem gL_law_X11_back : GoodIn wsL_law (wsV RL 126 RX11 yX11_back wsX11_back) := goodIn_app (goodIn_of _ (by decide +kernel)) ggL_law_X11_back
set_option maxRecDepth 20000 in
theorem gL_law_X12_back : GoodIn wsL_law (wsV RL 130 RX12 yX12_back wsX12_back) := goodIn_app (goodIn_of _ (by decide +kernel)) ggL_law_X12_back
set_option maxRecDepth 20000 in
theorem gL_law_X11_bar : GoodIn wsL_law (wsV RL 131 RX11 yX11_bar wsX11_bar) := goodIn_app (goodIn_of _ (by decide +kernel)) ggL_law_X11_bar
set_option maxRecDepth 20000 in
theorem gL_law_X12_bar : GoodIn wsL_law (wsV RL 134 RX12 yX12_bar wsX12_bar) := goodIn_app (goodIn_of _ (by decide +kernel)) ggL_law_X12_bar
set_option maxRecDepth 20000 in
theorem gL_law_X11_wound : GoodIn wsL_law (wsV RL 135 RX11 yX11_wound wsX11_wound) := goodIn_app (goodIn_of _ (by decide +kernel)) ggL_law_X11_wound
set_option maxRecDepth 20000 in
theorem gL_law_X12_wound : GoodIn wsL_law (wsV RL 138 RX12 yX12_wound wsX12_wound) := goodIn_app (goodIn_of _ (by decide +kernel)) ggL_law_X12_wound
set_option maxRecDepth 20000 in
theorem gL_law_X11_free : GoodIn wsL_law (wsV RL 139 RX11 yX11_free wsX11_free) := goodIn_app (goodIn_of _ (by decide +kernel)) ggL_law_X11_free
set_option maxRecDepth 20000 in
theorem gL_law_X12_free : GoodIn wsL_law (wsV RL 142 RX12 yX12_free wsX12_free) := goodIn_app (goodIn_of _ (by decide +kernel)) ggL_law_X12_free
set_option maxRecDepth 20000 in
theorem gL_law_X11_alike : GoodIn wsL_law (wsV RL 143 RX11 yX11_alike wsX11_alike) := goodIn_app (goodIn_of _ (by decide +kernel)) ggL_law_X11_alike
set_option maxRecDepth 20000 in
theorem gL_law_X12_alike : GoodIn wsL_law (wsV RL 146 RX12 yX12_alike wsX12_alike) := goodIn_app (goodIn_of _ (by decide +kernel)) ggL_law_X12_alike
set_option maxRecDepth 20000 in
theorem gL_law_X11_undo : GoodIn wsL_law (wsV RL 147 RX11 yX11_undo wsX11_undo) := goodIn_app (goodIn_of _ (by decide +kernel)) ggL_law_X11_undo
set_option maxRecDepth 20000 in
theorem gL_law_X12_undo : GoodIn wsL_law (wsV RL 150 RX12 yX12_undo wsX12_undo) := goodIn_app (goodIn_of _ (by decide +kernel)) ggL_law_X12_undo
set_option maxRecDepth 20000 in
theorem gL_law_X11_scene : GoodIn wsL_law (wsV RL 151 RX11 yX11_scene wsX11_scene) := goodIn_app (goodIn_of _ (by decide +kernel)) ggL_law_X11_scene
set_option maxRecDepth 20000 in
theorem gL_law_X12_scene : GoodIn wsL_law (wsV RL 154 RX12 yX12_scene wsX12_scene) := goodIn_app (goodIn_of _ (by decide +kernel)) ggL_law_X12_scene
set_option maxRecDepth 20000 in
theorem gL_law_X11_clear : GoodIn wsL_law (wsV RL 155 RX11 yX11_clear wsX11_clear) := goodIn_app (goodIn_of _ (by decide +kernel)) ggL_law_X11_clear
set_option maxRecDepth 20000 in
theorem gL_law_X12_clear : GoodIn wsL_law (wsV RL 158 RX12 yX12_clear wsX12_clear) := goodIn_app (goodIn_of _ (by decide +kernel)) ggL_law_X12_clear
set_option maxRecDepth 20000 in
theorem gL_law_X11_cast : GoodIn wsL_law (wsV RL 159 RX11 yX11_cast wsX11_cast) := goodIn_app (goodIn_of _ (by decide +kernel)) ggL_law_X11_cast
set_option maxRecDepth 20000 in
theorem gL_law_X12_cast : GoodIn wsL_law (wsV RL 162 RX12 yX12_cast wsX12_cast) := goodIn_app (goodIn_of _ (by decide +kernel)) ggL_law_X12_cast
set_option maxRecDepth 20000 in
theorem gL_law_L_reach : GoodIn wsL_law (va_wsS RL 163 yL_reach wsL_reach) := goodIn_app (goodIn_of _ (by decide +kernel)) ggL_law_L_reach
set_option maxRecDepth 20000 in
theorem gL_law_X12_reach : GoodIn wsL_law (wsV RL 166 RX12 yX12_reach wsX12_reach) := goodIn_app (goodIn_of _ (by decide +kernel)) ggL_law_X12_reach
set_option maxRecDepth 20000 in
theorem gL_law_X11_seen : GoodIn wsL_law (wsV RL 167 RX11 yX11_seen wsX11_seen) := goodIn_app (goodIn_of _ (by decide +kernel)) ggL_law_X11_seen
set_option maxRecDepth 20000 in
theorem gL_law_X12_seen : GoodIn wsL_law (wsV RL 170 RX12 yX12_seen wsX12_seen) := goodIn_app (goodIn_of _ (by decide +kernel)) ggL_law_X12_seen
set_option maxRecDepth 20000 in
theorem gL_law_X11_broken : GoodIn wsL_law (wsV RL 171 RX11 yX11_broken wsX11_broken) := goodIn_app (goodIn_of _ (by decide +kernel)) ggL_law_X11_broken
set_option maxRecDepth 20000 in
theorem gL_law_X12_broken : GoodIn wsL_law (wsV RL 174 RX12 yX12_broken wsX12_broken) := goodIn_app (goodIn_of _ (by decide +kernel)) ggL_law_X12_broken
set_option maxRecDepth 20000 in
theorem gL_law_L_row : GoodIn wsL_law (va_wsS RL 175 yL_row wsL_row) := goodIn_app (goodIn_of _ (by decide +kernel)) ggL_law_L_row
set_option maxRecDepth 20000 in
theorem gL_law_X12_row : GoodIn wsL_law (wsV RL 178 RX12 yX12_row wsX12_row) := goodIn_app (goodIn_of _ (by decide +kernel)) ggL_law_X12_row
