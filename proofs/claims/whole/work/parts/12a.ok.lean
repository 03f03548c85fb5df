theorem t_0_0 : am_ok lw_Ts cX0_has 2 RX0 0 (o_il 1 1) := so_il (Or.inl ⟨1, rfl, rfl, rfl⟩) (by decide +kernel)
theorem t_0_1 : am_ok lw_Ts cX0_has 2 RX0 1 (o_k 2 (vI (0))) := so_k (by decide +kernel)
theorem t_0_2 : am_ok lw_Ts cX0_has 2 RX0 2 (o_al 3 0) := so_al (Or.inl ⟨0, rfl, rfl, rfl⟩) (by decide +kernel)
theorem t_0_3 : am_ok lw_Ts cX0_has 2 RX0 3 (o_gf 6 0 4) := so_gf cl_X0 (by decide) wt_116 (by decide +kernel)
theorem t_0_6 : am_ok lw_Ts cX0_has 2 RX0 6 (o_k 7 (vI (1))) := so_k (by decide +kernel)
theorem t_0_7 : am_ok lw_Ts cX0_has 2 RX0 7 (o_ib 8 f_sub) := so_isub (by decide +kernel)
theorem t_0_8 : am_okc gm_mi gm_mt lw_Ts lw_Ns cX0_has RX0 8 66 3 := ⟨30, cf_66.1, cf_66.2.1, cf_66.2.2.1, cf_66.2.2.2, Or.inl ⟨rfl, (by decide +kernel), wt_312, by decide +kernel, (Or.inr ⟨"SeasonOfHours", by decide +kernel⟩)⟩⟩
theorem t_0_11 : am_okr cX0_has 11 2 := (show decode cX0_has 11 = .ok (.ireturn, 1) by decide +kernel)
set_option maxRecDepth 20000 in
theorem ok_0 : am_okL gm_mi gm_mt lw_Ts lw_Ns 0 cd_0 := ⟨t_0_0, t_0_1, t_0_2, t_0_3, t_0_6, t_0_7, t_0_8, t_0_11, trivial⟩
theorem t_1_0 : am_ok lw_Ts cX0_add 2 RX0 0 (o_al 1 0) := so_al (Or.inl ⟨0, rfl, rfl, rfl⟩) (by decide +kernel)
theorem t_1_1 : am_ok lw_Ts cX0_add 2 RX0 1 (o_gf 4 0 4) := so_gf cl_X0 (by decide) wt_116 (by decide +kernel)
theorem t_1_4 : am_ok lw_Ts cX0_add 2 RX0 4 (o_k 6 (vI (6))) := so_bp rfl (by decide +kernel)
theorem t_1_6 : am_ok lw_Ts cX0_add 2 RX0 6 (o_ic 11 9 r_lt) := so_ic_lt (off := 5) (by decide +kernel) rfl
theorem t_1_9 : am_ok lw_Ts cX0_add 2 RX0 9 (o_k 10 (vI (-1))) := so_k (by decide +kernel)
theorem t_1_10 : am_okr cX0_add 10 1 := (show decode cX0_add 10 = .ok (.ireturn, 1) by decide +kernel)
theorem t_1_11 : am_ok lw_Ts cX0_add 2 RX0 11 (o_al 12 0) := so_al (Or.inl ⟨0, rfl, rfl, rfl⟩) (by decide +kernel)
theorem t_1_12 : am_ok lw_Ts cX0_add 2 RX0 12 (o_gf 15 0 0) := so_gf cl_X0 (by decide) wt_100 (by decide +kernel)
theorem t_1_15 : am_ok lw_Ts cX0_add 2 RX0 15 (o_al 16 0) := so_al (Or.inl ⟨0, rfl, rfl, rfl⟩) (by decide +kernel)
theorem t_1_16 : am_ok lw_Ts cX0_add 2 RX0 16 (o_gf 19 0 4) := so_gf cl_X0 (by decide) wt_116 (by decide +kernel)
theorem t_1_19 : am_ok lw_Ts cX0_add 2 RX0 19 (o_il 20 1) := so_il (Or.inl ⟨1, rfl, rfl, rfl⟩) (by decide +kernel)
theorem t_1_20 : am_ok lw_Ts cX0_add 2 RX0 20 (o_iw 21) := so_iw (by decide +kernel)
theorem t_1_21 : am_ok lw_Ts cX0_add 2 RX0 21 (o_al 22 0) := so_al (Or.inl ⟨0, rfl, rfl, rfl⟩) (by decide +kernel)
theorem t_1_22 : am_ok lw_Ts cX0_add 2 RX0 22 (o_dup 23) := so_dup (by decide +kernel)
theorem t_1_23 : am_ok lw_Ts cX0_add 2 RX0 23 (o_gf 26 0 4) := so_gf cl_X0 (by decide) wt_116 (by decide +kernel)
theorem t_1_26 : am_ok lw_Ts cX0_add 2 RX0 26 (o_k 27 (vI (1))) := so_k (by decide +kernel)
theorem t_1_27 : am_ok lw_Ts cX0_add 2 RX0 27 (o_ib 28 f_add) := so_iadd (by decide +kernel)
theorem t_1_28 : am_ok lw_Ts cX0_add 2 RX0 28 (o_pf 31 0 4) := so_pf cl_X0 tyX0_ok nmX0 (by decide) rfl rfl wt_116 (by decide +kernel)
theorem t_1_31 : am_ok lw_Ts cX0_add 2 RX0 31 (o_al 32 0) := so_al (Or.inl ⟨0, rfl, rfl, rfl⟩) (by decide +kernel)
theorem t_1_32 : am_ok lw_Ts cX0_add 2 RX0 32 (o_gf 35 0 4) := so_gf cl_X0 (by decide) wt_116 (by decide +kernel)
theorem t_1_35 : am_ok lw_Ts cX0_add 2 RX0 35 (o_k 36 (vI (1))) := so_k (by decide +kernel)
theorem t_1_36 : am_ok lw_Ts cX0_add 2 RX0 36 (o_ib 37 f_sub) := so_isub (by decide +kernel)
theorem t_1_37 : am_okr cX0_add 37 1 := (show decode cX0_add 37 = .ok (.ireturn, 1) by decide +kernel)
set_option maxRecDepth 20000 in
theorem ok_1 : am_okL gm_mi gm_mt lw_Ts lw_Ns 1 cd_1 := ⟨t_1_0, t_1_1, t_1_4, t_1_6, t_1_9, t_1_10, t_1_11, t_1_12, t_1_15, t_1_16, t_1_19, t_1_20, t_1_21, t_1_22, t_1_23, t_1_26, t_1_27, t_1_28, t_1_31, t_1_32, t_1_35, t_1_36, t_1_37, trivial⟩
theorem t_2_0 : am_ok lw_Ts cX1_append 5 RX1 0 (o_al 1 0) := so_al (Or.inl ⟨0, rfl, rfl, rfl⟩) (by decide +kernel)
theorem t_2_1 : am_ok lw_Ts cX1_append 5 RX1 1 (o_gf 4 1 2) := so_gf cl_X1 (by decide) wt_273 (by decide +kernel)
theorem t_2_4 : am_ok lw_Ts cX1_append 5 RX1 4 (o_il 5 1) := so_il (Or.inl ⟨1, rfl, rfl, rfl⟩) (by decide +kernel)
theorem t_2_5 : am_ok lw_Ts cX1_append 5 RX1 5 (o_ia 6) := so_ia (by decide +kernel)
theorem t_2_6 : am_ok lw_Ts cX1_append 5 RX1 6 (o_is 7 3) := so_is (Or.inl ⟨3, rfl, rfl, rfl⟩) (by decide +kernel)
theorem t_2_7 : am_ok lw_Ts cX1_append 5 RX1 7 (o_k 8 (vI (0))) := so_k (by decide +kernel)
theorem t_2_8 : am_ok lw_Ts cX1_append 5 RX1 8 (o_is 10 4) := so_is (Or.inr ⟨rfl, rfl⟩) (by decide +kernel)
theorem t_2_10 : am_ok lw_Ts cX1_append 5 RX1 10 (o_il 12 4) := so_il (Or.inr ⟨rfl, rfl⟩) (by decide +kernel)
theorem t_2_12 : am_ok lw_Ts cX1_append 5 RX1 12 (o_il 13 3) := so_il (Or.inl ⟨3, rfl, rfl, rfl⟩) (by decide +kernel)
theorem t_2_13 : am_ok lw_Ts cX1_append 5 RX1 13 (o_ic 37 16 r_ge) := so_ic_ge (off := 24) (by decide +kernel) rfl
theorem t_2_16 : am_ok lw_Ts cX1_append 5 RX1 16 (o_al 17 0) := so_al (Or.inl ⟨0, rfl, rfl, rfl⟩) (by decide +kernel)
theorem t_2_17 : am_ok lw_Ts cX1_append 5 RX1 17 (o_gf 20 1 1) := so_gf cl_X1 (by decide) wt_272 (by decide +kernel)
theorem t_2_20 : am_ok lw_Ts cX1_append 5 RX1 20 (o_il 21 1) := so_il (Or.inl ⟨1, rfl, rfl, rfl⟩) (by decide +kernel)
theorem t_2_21 : am_ok lw_Ts cX1_append 5 RX1 21 (o_aa 22) := so_aa (by decide +kernel)
theorem t_2_22 : am_ok lw_Ts cX1_append 5 RX1 22 (o_il 24 4) := so_il (Or.inr ⟨rfl, rfl⟩) (by decide +kernel)
theorem t_2_24 : am_ok lw_Ts cX1_append 5 RX1 24 (o_ia 25) := so_ia (by decide +kernel)
theorem t_2_25 : am_ok lw_Ts cX1_append 5 RX1 25 (o_il 26 2) := so_il (Or.inl ⟨2, rfl, rfl, rfl⟩) (by decide +kernel)
theorem t_2_26 : am_ok lw_Ts cX1_append 5 RX1 26 (o_ic 31 29 r_ne) := so_ic_ne (off := 5) (by decide +kernel) rfl
theorem t_2_29 : am_ok lw_Ts cX1_append 5 RX1 29 (o_k 30 (vI (-1))) := so_k (by decide +kernel)
theorem t_2_30 : am_okr cX1_append 30 1 := (show decode cX1_append 30 = .ok (.ireturn, 1) by decide +kernel)
theorem t_2_31 : am_ok lw_Ts cX1_append 5 RX1 31 (o_ii 34 4 (1)) := so_ii (by decide +kernel)
theorem t_2_34 : am_ok lw_Ts cX1_append 5 RX1 34 (o_go 10) := so_go (off := (-24)) (by decide +kernel) rfl
theorem t_2_37 : am_ok lw_Ts cX1_append 5 RX1 37 (o_il 38 3) := so_il (Or.inl ⟨3, rfl, rfl, rfl⟩) (by decide +kernel)
theorem t_2_38 : am_ok lw_Ts cX1_append 5 RX1 38 (o_k 40 (vI (6))) := so_bp rfl (by decide +kernel)
theorem t_2_40 : am_ok lw_Ts cX1_append 5 RX1 40 (o_ic 45 43 r_lt) := so_ic_lt (off := 5) (by decide +kernel) rfl
theorem t_2_43 : am_ok lw_Ts cX1_append 5 RX1 43 (o_k 44 (vI (-1))) := so_k (by decide +kernel)
theorem t_2_44 : am_okr cX1_append 44 1 := (show decode cX1_append 44 = .ok (.ireturn, 1) by decide +kernel)
theorem t_2_45 : am_ok lw_Ts cX1_append 5 RX1 45 (o_al 46 0) := so_al (Or.inl ⟨0, rfl, rfl, rfl⟩) (by decide +kernel)
theorem t_2_46 : am_ok lw_Ts cX1_append 5 RX1 46 (o_gf 49 1 1) := so_gf cl_X1 (by decide) wt_272 (by decide +kernel)
theorem t_2_49 : am_ok lw_Ts cX1_append 5 RX1 49 (o_il 50 1) := so_il (Or.inl ⟨1, rfl, rfl, rfl⟩) (by decide +kernel)
theorem t_2_50 : am_ok lw_Ts cX1_append 5 RX1 50 (o_aa 51) := so_aa (by decide +kernel)
theorem t_2_51 : am_ok lw_Ts cX1_append 5 RX1 51 (o_il 52 3) := so_il (Or.inl ⟨3, rfl, rfl, rfl⟩) (by decide +kernel)
theorem t_2_52 : am_ok lw_Ts cX1_append 5 RX1 52 (o_il 53 2) := so_il (Or.inl ⟨2, rfl, rfl, rfl⟩) (by decide +kernel)
theorem t_2_53 : am_ok lw_Ts cX1_append 5 RX1 53 (o_iw 54) := so_iw (by decide +kernel)
theorem t_2_54 : am_ok lw_Ts cX1_append 5 RX1 54 (o_al 55 0) := so_al (Or.inl ⟨0, rfl, rfl, rfl⟩) (by decide +kernel)
theorem t_2_55 : am_ok lw_Ts cX1_append 5 RX1 55 (o_gf 58 1 2) := so_gf cl_X1 (by decide) wt_273 (by decide +kernel)
theorem t_2_58 : am_ok lw_Ts cX1_append 5 RX1 58 (o_il 59 1) := so_il (Or.inl ⟨1, rfl, rfl, rfl⟩) (by decide +kernel)
theorem t_2_59 : am_ok lw_Ts cX1_append 5 RX1 59 (o_il 60 3) := so_il (Or.inl ⟨3, rfl, rfl, rfl⟩) (by decide +kernel)
theorem t_2_60 : am_ok lw_Ts cX1_append 5 RX1 60 (o_k 61 (vI (1))) := so_k (by decide +kernel)
theorem t_2_61 : am_ok lw_Ts cX1_append 5 RX1 61 (o_ib 62 f_add) := so_iadd (by decide +kernel)
theorem t_2_62 : am_ok lw_Ts cX1_append 5 RX1 62 (o_iw 63) := so_iw (by decide +kernel)
theorem t_2_63 : am_ok lw_Ts cX1_append 5 RX1 63 (o_il 64 3) := so_il (Or.inl ⟨3, rfl, rfl, rfl⟩) (by decide +kernel)
theorem t_2_64 : am_ok lw_Ts cX1_append 5 RX1 64 (o_k 65 (vI (1))) := so_k (by decide +kernel)
theorem t_2_65 : am_ok lw_Ts cX1_append 5 RX1 65 (o_ib 66 f_add) := so_iadd (by decide +kernel)
theorem t_2_66 : am_okr cX1_append 66 1 := (show decode cX1_append 66 = .ok (.ireturn, 1) by decide +kernel)
set_option maxRecDepth 20000 in
theorem ok_2 : am_okL gm_mi gm_mt lw_Ts lw_Ns 2 cd_2 := ⟨t_2_0, t_2_1, t_2_4, t_2_5, t_2_6, t_2_7, t_2_8, t_2_10, t_2_12, t_2_13, t_2_16, t_2_17, t_2_20, t_2_21, t_2_22, t_2_24, t_2_25, t_2_26, t_2_29, t_2_30, t_2_31, t_2_34, t_2_37, t_2_38, t_2_40, t_2_43, t_2_44, t_2_45, t_2_46, t_2_49, t_2_50, t_2_51, t_2_52, t_2_53, t_2_54, t_2_55, t_2_58, t_2_59, t_2_60, t_2_61, t_2_62, t_2_63, t_2_64, t_2_65, t_2_66, trivial⟩
theorem t_3_0 : am_ok lw_Ts cX1_sumFor 4 RX1 0 (o_k 1 (vI (0))) := so_k (by decide +kernel)
theorem t_3_1 : am_ok lw_Ts cX1_sumFor 4 RX1 1 (o_is 2 2) := so_is (Or.inl ⟨2, rfl, rfl, rfl⟩) (by decide +kernel)
theorem t_3_2 : am_ok lw_Ts cX1_sumFor 4 RX1 2 (o_k 3 (vI (0))) := so_k (by decide +kernel)
theorem t_3_3 : am_ok lw_Ts cX1_sumFor 4 RX1 3 (o_is 4 3) := so_is (Or.inl ⟨3, rfl, rfl, rfl⟩) (by decide +kernel)
theorem t_3_4 : am_ok lw_Ts cX1_sumFor 4 RX1 4 (o_il 5 3) := so_il (Or.inl ⟨3, rfl, rfl, rfl⟩) (by decide +kernel)
theorem t_3_5 : am_ok lw_Ts cX1_sumFor 4 RX1 5 (o_k 7 (vI (7))) := so_bp rfl (by decide +kernel)
theorem t_3_7 : am_ok lw_Ts cX1_sumFor 4 RX1 7 (o_ic 38 10 r_ge) := so_ic_ge (off := 31) (by decide +kernel) rfl
theorem t_3_10 : am_ok lw_Ts cX1_sumFor 4 RX1 10 (o_al 11 0) := so_al (Or.inl ⟨0, rfl, rfl, rfl⟩) (by decide +kernel)
theorem t_3_11 : am_ok lw_Ts cX1_sumFor 4 RX1 11 (o_gf 14 1 3) := so_gf cl_X1 (by decide) wt_274 (by decide +kernel)
theorem t_3_14 : am_ok lw_Ts cX1_sumFor 4 RX1 14 (o_il 15 3) := so_il (Or.inl ⟨3, rfl, rfl, rfl⟩) (by decide +kernel)
theorem t_3_15 : am_ok lw_Ts cX1_sumFor 4 RX1 15 (o_ia 16) := so_ia (by decide +kernel)
theorem t_3_16 : am_ok lw_Ts cX1_sumFor 4 RX1 16 (o_il 17 1) := so_il (Or.inl ⟨1, rfl, rfl, rfl⟩) (by decide +kernel)
theorem t_3_17 : am_okc gm_mi gm_mt lw_Ts lw_Ns cX1_sumFor RX1 17 67 2 := ⟨30, cf_67.1, cf_67.2.1, cf_67.2.2.1, cf_67.2.2.2, Or.inl ⟨rfl, (by decide +kernel), wt_420, by decide +kernel, (Or.inr ⟨"SeasonOfHours", by decide +kernel⟩)⟩⟩
theorem t_3_20 : am_ok lw_Ts cX1_sumFor 4 RX1 20 (o_if 32 23 q_ne) := so_if_ne (off := 12) (by decide +kernel) rfl
theorem t_3_23 : am_ok lw_Ts cX1_sumFor 4 RX1 23 (o_il 24 2) := so_il (Or.inl ⟨2, rfl, rfl, rfl⟩) (by decide +kernel)
theorem t_3_24 : am_ok lw_Ts cX1_sumFor 4 RX1 24 (o_al 25 0) := so_al (Or.inl ⟨0, rfl, rfl, rfl⟩) (by decide +kernel)
theorem t_3_25 : am_ok lw_Ts cX1_sumFor 4 RX1 25 (o_il 26 3) := so_il (Or.inl ⟨3, rfl, rfl, rfl⟩) (by decide +kernel)
theorem t_3_26 : am_ok lw_Ts cX1_sumFor 4 RX1 26 (o_il 27 1) := so_il (Or.inl ⟨1, rfl, rfl, rfl⟩) (by decide +kernel)
theorem t_3_27 : am_okc gm_mi gm_mt lw_Ts lw_Ns cX1_sumFor RX1 27 4 3 := ⟨34, cf_4.1, cf_4.2.1, cf_4.2.2.1, cf_4.2.2.2, Or.inr ⟨1, 2, TX1, 5, rfl, rfl, rfl, (by decide +kernel), wt_600, wt_21, wt_598, by decide +kernel⟩⟩
theorem t_3_30 : am_ok lw_Ts cX1_sumFor 4 RX1 30 (o_ib 31 f_add) := so_iadd (by decide +kernel)
theorem t_3_31 : am_ok lw_Ts cX1_sumFor 4 RX1 31 (o_is 32 2) := so_is (Or.inl ⟨2, rfl, rfl, rfl⟩) (by decide +kernel)
theorem t_3_32 : am_ok lw_Ts cX1_sumFor 4 RX1 32 (o_ii 35 3 (1)) := so_ii (by decide +kernel)
theorem t_3_35 : am_ok lw_Ts cX1_sumFor 4 RX1 35 (o_go 4) := so_go (off := (-31)) (by decide +kernel) rfl
theorem t_3_38 : am_ok lw_Ts cX1_sumFor 4 RX1 38 (o_il 39 2) := so_il (Or.inl ⟨2, rfl, rfl, rfl⟩) (by decide +kernel)
theorem t_3_39 : am_okr cX1_sumFor 39 1 := (show decode cX1_sumFor 39 = .ok (.ireturn, 1) by decide +kernel)
set_option maxRecDepth 20000 in
theorem ok_3 : am_okL gm_mi gm_mt lw_Ts lw_Ns 3 cd_3 := ⟨t_3_0, t_3_1, t_3_2, t_3_3, t_3_4, t_3_5, t_3_7, t_3_10, t_3_11, t_3_14, t_3_15, t_3_16, t_3_17, t_3_20, t_3_23, t_3_24, t_3_25, t_3_26, t_3_27, t_3_30, t_3_31, t_3_32, t_3_35, t_3_38, t_3_39, trivial⟩
theorem t_4_0 : am_ok lw_Ts cX1_fromJudge 5 RX1 0 (o_k 1 (vI (0))) := so_k (by decide +kernel)
theorem t_4_1 : am_ok lw_Ts cX1_fromJudge 5 RX1 1 (o_is 2 3) := so_is (Or.inl ⟨3, rfl, rfl, rfl⟩) (by decide +kernel)
theorem t_4_2 : am_ok lw_Ts cX1_fromJudge 5 RX1 2 (o_k 3 (vI (0))) := so_k (by decide +kernel)
theorem t_4_3 : am_ok lw_Ts cX1_fromJudge 5 RX1 3 (o_is 5 4) := so_is (Or.inr ⟨rfl, rfl⟩) (by decide +kernel)
theorem t_4_5 : am_ok lw_Ts cX1_fromJudge 5 RX1 5 (o_il 7 4) := so_il (Or.inr ⟨rfl, rfl⟩) (by decide +kernel)
theorem t_4_7 : am_ok lw_Ts cX1_fromJudge 5 RX1 7 (o_al 8 0) := so_al (Or.inl ⟨0, rfl, rfl, rfl⟩) (by decide +kernel)
theorem t_4_8 : am_ok lw_Ts cX1_fromJudge 5 RX1 8 (o_gf 11 1 2) := so_gf cl_X1 (by decide) wt_273 (by decide +kernel)
theorem t_4_11 : am_ok lw_Ts cX1_fromJudge 5 RX1 11 (o_il 12 1) := so_il (Or.inl ⟨1, rfl, rfl, rfl⟩) (by decide +kernel)
theorem t_4_12 : am_ok lw_Ts cX1_fromJudge 5 RX1 12 (o_ia 13) := so_ia (by decide +kernel)
theorem t_4_13 : am_ok lw_Ts cX1_fromJudge 5 RX1 13 (o_ic 68 16 r_ge) := so_ic_ge (off := 55) (by decide +kernel) rfl
theorem t_4_16 : am_ok lw_Ts cX1_fromJudge 5 RX1 16 (o_al 17 0) := so_al (Or.inl ⟨0, rfl, rfl, rfl⟩) (by decide +kernel)
theorem t_4_17 : am_ok lw_Ts cX1_fromJudge 5 RX1 17 (o_gf 20 1 1) := so_gf cl_X1 (by decide) wt_272 (by decide +kernel)
theorem t_4_20 : am_ok lw_Ts cX1_fromJudge 5 RX1 20 (o_il 21 1) := so_il (Or.inl ⟨1, rfl, rfl, rfl⟩) (by decide +kernel)
theorem t_4_21 : am_ok lw_Ts cX1_fromJudge 5 RX1 21 (o_aa 22) := so_aa (by decide +kernel)
theorem t_4_22 : am_ok lw_Ts cX1_fromJudge 5 RX1 22 (o_il 24 4) := so_il (Or.inr ⟨rfl, rfl⟩) (by decide +kernel)
theorem t_4_24 : am_ok lw_Ts cX1_fromJudge 5 RX1 24 (o_ia 25) := so_ia (by decide +kernel)
theorem t_4_25 : am_ok lw_Ts cX1_fromJudge 5 RX1 25 (o_il 26 2) := so_il (Or.inl ⟨2, rfl, rfl, rfl⟩) (by decide +kernel)
theorem t_4_26 : am_ok lw_Ts cX1_fromJudge 5 RX1 26 (o_ic 38 29 r_ne) := so_ic_ne (off := 12) (by decide +kernel) rfl
theorem t_4_29 : am_ok lw_Ts cX1_fromJudge 5 RX1 29 (o_k 30 (vI (0))) := so_k (by decide +kernel)
theorem t_4_30 : am_ok lw_Ts cX1_fromJudge 5 RX1 30 (o_k 32 (vI (6))) := so_bp rfl (by decide +kernel)
theorem t_4_32 : am_ok lw_Ts cX1_fromJudge 5 RX1 32 (o_il 33 3) := so_il (Or.inl ⟨3, rfl, rfl, rfl⟩) (by decide +kernel)
theorem t_4_33 : am_ok lw_Ts cX1_fromJudge 5 RX1 33 (o_ib 34 f_sub) := so_isub (by decide +kernel)
theorem t_4_34 : am_okc gm_mi gm_mt lw_Ts lw_Ns cX1_fromJudge RX1 34 115 2 := ⟨38, cf_115.1, cf_115.2.1, cf_115.2.2.1, cf_115.2.2.2, Or.inl ⟨rfl, (by decide +kernel), wt_603, by decide +kernel, (Or.inl wt_602)⟩⟩
theorem t_4_37 : am_okr cX1_fromJudge 37 1 := (show decode cX1_fromJudge 37 = .ok (.ireturn, 1) by decide +kernel)
theorem t_4_38 : am_ok lw_Ts cX1_fromJudge 5 RX1 38 (o_al 39 0) := so_al (Or.inl ⟨0, rfl, rfl, rfl⟩) (by decide +kernel)
theorem t_4_39 : am_ok lw_Ts cX1_fromJudge 5 RX1 39 (o_gf 42 1 3) := so_gf cl_X1 (by decide) wt_274 (by decide +kernel)
theorem t_4_42 : am_ok lw_Ts cX1_fromJudge 5 RX1 42 (o_il 43 1) := so_il (Or.inl ⟨1, rfl, rfl, rfl⟩) (by decide +kernel)
theorem t_4_43 : am_ok lw_Ts cX1_fromJudge 5 RX1 43 (o_ia 44) := so_ia (by decide +kernel)
theorem t_4_44 : am_ok lw_Ts cX1_fromJudge 5 RX1 44 (o_al 45 0) := so_al (Or.inl ⟨0, rfl, rfl, rfl⟩) (by decide +kernel)
theorem t_4_45 : am_ok lw_Ts cX1_fromJudge 5 RX1 45 (o_gf 48 1 1) := so_gf cl_X1 (by decide) wt_272 (by decide +kernel)
theorem t_4_48 : am_ok lw_Ts cX1_fromJudge 5 RX1 48 (o_il 49 1) := so_il (Or.inl ⟨1, rfl, rfl, rfl⟩) (by decide +kernel)
theorem t_4_49 : am_ok lw_Ts cX1_fromJudge 5 RX1 49 (o_aa 50) := so_aa (by decide +kernel)
theorem t_4_50 : am_ok lw_Ts cX1_fromJudge 5 RX1 50 (o_il 52 4) := so_il (Or.inr ⟨rfl, rfl⟩) (by decide +kernel)
theorem t_4_52 : am_ok lw_Ts cX1_fromJudge 5 RX1 52 (o_ia 53) := so_ia (by decide +kernel)
theorem t_4_53 : am_okc gm_mi gm_mt lw_Ts lw_Ns cX1_fromJudge RX1 53 67 2 := ⟨30, cf_67.1, cf_67.2.1, cf_67.2.2.1, cf_67.2.2.2, Or.inl ⟨rfl, (by decide +kernel), wt_420, by decide +kernel, (Or.inr ⟨"SeasonOfHours", by decide +kernel⟩)⟩⟩
theorem t_4_56 : am_ok lw_Ts cX1_fromJudge 5 RX1 56 (o_if 62 59 q_ne) := so_if_ne (off := 6) (by decide +kernel) rfl
theorem t_4_59 : am_ok lw_Ts cX1_fromJudge 5 RX1 59 (o_ii 62 3 (1)) := so_ii (by decide +kernel)
theorem t_4_62 : am_ok lw_Ts cX1_fromJudge 5 RX1 62 (o_ii 65 4 (1)) := so_ii (by decide +kernel)
theorem t_4_65 : am_ok lw_Ts cX1_fromJudge 5 RX1 65 (o_go 5) := so_go (off := (-60)) (by decide +kernel) rfl
theorem t_4_68 : am_ok lw_Ts cX1_fromJudge 5 RX1 68 (o_k 69 (vI (0))) := so_k (by decide +kernel)
theorem t_4_69 : am_okr cX1_fromJudge 69 1 := (show decode cX1_fromJudge 69 = .ok (.ireturn, 1) by decide +kernel)
set_option maxRecDepth 20000 in
theorem ok_4 : am_okL gm_mi gm_mt lw_Ts lw_Ns 4 cd_4 := ⟨t_4_0, t_4_1, t_4_2, t_4_3, t_4_5, t_4_7, t_4_8, t_4_11, t_4_12, t_4_13, t_4_16, t_4_17, t_4_20, t_4_21, t_4_22, t_4_24, t_4_25, t_4_26, t_4_29, t_4_30, t_4_32, t_4_33, t_4_34, t_4_37, t_4_38, t_4_39, t_4_42, t_4_43, t_4_44, t_4_45, t_4_48, t_4_49, t_4_50, t_4_52, t_4_53, t_4_56, t_4_59, t_4_62, t_4_65, t_4_68, t_4_69, trivial⟩
theorem t_5_0 : am_ok lw_Ts cX1_artistAtPlace 3 RX1 0 (o_k 1 (vI (0))) := so_k (by decide +kernel)
theorem t_5_1 : am_ok lw_Ts cX1_artistAtPlace 3 RX1 1 (o_is 2 2) := so_is (Or.inl ⟨2, rfl, rfl, rfl⟩) (by decide +kernel)
theorem t_5_2 : am_ok lw_Ts cX1_artistAtPlace 3 RX1 2 (o_il 3 2) := so_il (Or.inl ⟨2, rfl, rfl, rfl⟩) (by decide +kernel)
theorem t_5_3 : am_ok lw_Ts cX1_artistAtPlace 3 RX1 3 (o_al 4 0) := so_al (Or.inl ⟨0, rfl, rfl, rfl⟩) (by decide +kernel)
theorem t_5_4 : am_ok lw_Ts cX1_artistAtPlace 3 RX1 4 (o_gf 7 1 0) := so_gf cl_X1 (by decide) wt_271 (by decide +kernel)
theorem t_5_7 : am_ok lw_Ts cX1_artistAtPlace 3 RX1 7 (o_gf 10 0 4) := so_gf cl_X0 (by decide) wt_118 (by decide +kernel)
theorem t_5_10 : am_ok lw_Ts cX1_artistAtPlace 3 RX1 10 (o_ic 30 13 r_ge) := so_ic_ge (off := 20) (by decide +kernel) rfl
theorem t_5_13 : am_ok lw_Ts cX1_artistAtPlace 3 RX1 13 (o_al 14 0) := so_al (Or.inl ⟨0, rfl, rfl, rfl⟩) (by decide +kernel)
theorem t_5_14 : am_ok lw_Ts cX1_artistAtPlace 3 RX1 14 (o_gf 17 1 4) := so_gf cl_X1 (by decide) wt_276 (by decide +kernel)
theorem t_5_17 : am_ok lw_Ts cX1_artistAtPlace 3 RX1 17 (o_il 18 2) := so_il (Or.inl ⟨2, rfl, rfl, rfl⟩) (by decide +kernel)
theorem t_5_18 : am_ok lw_Ts cX1_artistAtPlace 3 RX1 18 (o_al 19 0) := so_al (Or.inl ⟨0, rfl, rfl, rfl⟩) (by decide +kernel)
theorem t_5_19 : am_ok lw_Ts cX1_artistAtPlace 3 RX1 19 (o_il 20 2) := so_il (Or.inl ⟨2, rfl, rfl, rfl⟩) (by decide +kernel)
theorem t_5_20 : am_okc gm_mi gm_mt lw_Ts lw_Ns cX1_artistAtPlace RX1 20 3 2 := ⟨49, cf_3.1, cf_3.2.1, cf_3.2.2.1, cf_3.2.2.2, Or.inr ⟨1, 1, TX1, 5, rfl, rfl, rfl, (by decide +kernel), wt_594, wt_595, wt_613, by decide +kernel⟩⟩
theorem t_5_23 : am_ok lw_Ts cX1_artistAtPlace 3 RX1 23 (o_iw 24) := so_iw (by decide +kernel)
theorem t_5_24 : am_ok lw_Ts cX1_artistAtPlace 3 RX1 24 (o_ii 27 2 (1)) := so_ii (by decide +kernel)
theorem t_5_27 : am_ok lw_Ts cX1_artistAtPlace 3 RX1 27 (o_go 2) := so_go (off := (-25)) (by decide +kernel) rfl
theorem t_5_30 : am_ok lw_Ts cX1_artistAtPlace 3 RX1 30 (o_k 31 (vI (0))) := so_k (by decide +kernel)
theorem t_5_31 : am_ok lw_Ts cX1_artistAtPlace 3 RX1 31 (o_is 32 2) := so_is (Or.inl ⟨2, rfl, rfl, rfl⟩) (by decide +kernel)
theorem t_5_32 : am_ok lw_Ts cX1_artistAtPlace 3 RX1 32 (o_il 33 2) := so_il (Or.inl ⟨2, rfl, rfl, rfl⟩) (by decide +kernel)
theorem t_5_33 : am_ok lw_Ts cX1_artistAtPlace 3 RX1 33 (o_al 34 0) := so_al (Or.inl ⟨0, rfl, rfl, rfl⟩) (by decide +kernel)
theorem t_5_34 : am_ok lw_Ts cX1_artistAtPlace 3 RX1 34 (o_gf 37 1 0) := so_gf cl_X1 (by decide) wt_271 (by decide +kernel)
theorem t_5_37 : am_ok lw_Ts cX1_artistAtPlace 3 RX1 37 (o_gf 40 0 4) := so_gf cl_X0 (by decide) wt_118 (by decide +kernel)
theorem t_5_40 : am_ok lw_Ts cX1_artistAtPlace 3 RX1 40 (o_ic 60 43 r_ge) := so_ic_ge (off := 20) (by decide +kernel) rfl
theorem t_5_43 : am_ok lw_Ts cX1_artistAtPlace 3 RX1 43 (o_al 44 0) := so_al (Or.inl ⟨0, rfl, rfl, rfl⟩) (by decide +kernel)
theorem t_5_44 : am_ok lw_Ts cX1_artistAtPlace 3 RX1 44 (o_il 45 2) := so_il (Or.inl ⟨2, rfl, rfl, rfl⟩) (by decide +kernel)
theorem t_5_45 : am_okc gm_mi gm_mt lw_Ts lw_Ns cX1_artistAtPlace RX1 45 6 2 := ⟨53, cf_6.1, cf_6.2.1, cf_6.2.2.1, cf_6.2.2.2, Or.inr ⟨1, 1, TX1, 5, rfl, rfl, rfl, (by decide +kernel), wt_616, wt_22, wt_614, by decide +kernel⟩⟩
theorem t_5_48 : am_ok lw_Ts cX1_artistAtPlace 3 RX1 48 (o_il 49 1) := so_il (Or.inl ⟨1, rfl, rfl, rfl⟩) (by decide +kernel)
theorem t_5_49 : am_ok lw_Ts cX1_artistAtPlace 3 RX1 49 (o_ic 54 52 r_ne) := so_ic_ne (off := 5) (by decide +kernel) rfl
theorem t_5_52 : am_ok lw_Ts cX1_artistAtPlace 3 RX1 52 (o_il 53 2) := so_il (Or.inl ⟨2, rfl, rfl, rfl⟩) (by decide +kernel)
theorem t_5_53 : am_okr cX1_artistAtPlace 53 1 := (show decode cX1_artistAtPlace 53 = .ok (.ireturn, 1) by decide +kernel)
theorem t_5_54 : am_ok lw_Ts cX1_artistAtPlace 3 RX1 54 (o_ii 57 2 (1)) := so_ii (by decide +kernel)
theorem t_5_57 : am_ok lw_Ts cX1_artistAtPlace 3 RX1 57 (o_go 32) := so_go (off := (-25)) (by decide +kernel) rfl
theorem t_5_60 : am_ok lw_Ts cX1_artistAtPlace 3 RX1 60 (o_k 61 (vI (-1))) := so_k (by decide +kernel)
theorem t_5_61 : am_okr cX1_artistAtPlace 61 1 := (show decode cX1_artistAtPlace 61 = .ok (.ireturn, 1) by decide +kernel)
set_option maxRecDepth 20000 in
theorem ok_5 : am_okL gm_mi gm_mt lw_Ts lw_Ns 5 cd_5 := ⟨t_5_0, t_5_1, t_5_2, t_5_3, t_5_4, t_5_7, t_5_10, t_5_13, t_5_14, t_5_17, t_5_18, t_5_19, t_5_20, t_5_23, t_5_24, t_5_27, t_5_30, t_5_31, t_5_32, t_5_33, t_5_34, t_5_37, t_5_40, t_5_43, t_5_44, t_5_45, t_5_48, t_5_49, t_5_52, t_5_53, t_5_54, t_5_57, t_5_60, t_5_61, trivial⟩
theorem t_6_0 : am_ok lw_Ts cX1_placeOf 4 RX1 0 (o_k 1 (vI (0))) := so_k (by decide +kernel)
theorem t_6_1 : am_ok lw_Ts cX1_placeOf 4 RX1 1 (o_is 2 2) := so_is (Or.inl ⟨2, rfl, rfl, rfl⟩) (by decide +kernel)
theorem t_6_2 : am_ok lw_Ts cX1_placeOf 4 RX1 2 (o_k 3 (vI (0))) := so_k (by decide +kernel)
theorem t_6_3 : am_ok lw_Ts cX1_placeOf 4 RX1 3 (o_is 4 3) := so_is (Or.inl ⟨3, rfl, rfl, rfl⟩) (by decide +kernel)
theorem t_6_4 : am_ok lw_Ts cX1_placeOf 4 RX1 4 (o_il 5 3) := so_il (Or.inl ⟨3, rfl, rfl, rfl⟩) (by decide +kernel)
theorem t_6_5 : am_ok lw_Ts cX1_placeOf 4 RX1 5 (o_al 6 0) := so_al (Or.inl ⟨0, rfl, rfl, rfl⟩) (by decide +kernel)
theorem t_6_6 : am_ok lw_Ts cX1_placeOf 4 RX1 6 (o_gf 9 1 0) := so_gf cl_X1 (by decide) wt_271 (by decide +kernel)
theorem t_6_9 : am_ok lw_Ts cX1_placeOf 4 RX1 9 (o_gf 12 0 4) := so_gf cl_X0 (by decide) wt_118 (by decide +kernel)
theorem t_6_12 : am_ok lw_Ts cX1_placeOf 4 RX1 12 (o_ic 33 15 r_ge) := so_ic_ge (off := 21) (by decide +kernel) rfl
theorem t_6_15 : am_ok lw_Ts cX1_placeOf 4 RX1 15 (o_al 16 0) := so_al (Or.inl ⟨0, rfl, rfl, rfl⟩) (by decide +kernel)
theorem t_6_16 : am_ok lw_Ts cX1_placeOf 4 RX1 16 (o_il 17 3) := so_il (Or.inl ⟨3, rfl, rfl, rfl⟩) (by decide +kernel)
theorem t_6_17 : am_ok lw_Ts cX1_placeOf 4 RX1 17 (o_il 18 1) := so_il (Or.inl ⟨1, rfl, rfl, rfl⟩) (by decide +kernel)
theorem t_6_18 : am_okc gm_mi gm_mt lw_Ts lw_Ns cX1_placeOf RX1 18 7 3 := ⟨56, cf_7.1, cf_7.2.1, cf_7.2.2.1, cf_7.2.2.2, Or.inr ⟨1, 2, TX1, 5, rfl, rfl, rfl, (by decide +kernel), wt_620, wt_23, wt_618, by decide +kernel⟩⟩
theorem t_6_21 : am_ok lw_Ts cX1_placeOf 4 RX1 21 (o_if 27 24 q_eq) := so_if_eq (off := 6) (by decide +kernel) rfl
theorem t_6_24 : am_ok lw_Ts cX1_placeOf 4 RX1 24 (o_ii 27 2 (1)) := so_ii (by decide +kernel)
theorem t_6_27 : am_ok lw_Ts cX1_placeOf 4 RX1 27 (o_ii 30 3 (1)) := so_ii (by decide +kernel)
theorem t_6_30 : am_ok lw_Ts cX1_placeOf 4 RX1 30 (o_go 4) := so_go (off := (-26)) (by decide +kernel) rfl
theorem t_6_33 : am_ok lw_Ts cX1_placeOf 4 RX1 33 (o_il 34 2) := so_il (Or.inl ⟨2, rfl, rfl, rfl⟩) (by decide +kernel)
theorem t_6_34 : am_okr cX1_placeOf 34 1 := (show decode cX1_placeOf 34 = .ok (.ireturn, 1) by decide +kernel)
set_option maxRecDepth 20000 in
theorem ok_6 : am_okL gm_mi gm_mt lw_Ts lw_Ns 6 cd_6 := ⟨t_6_0, t_6_1, t_6_2, t_6_3, t_6_4, t_6_5, t_6_6, t_6_9, t_6_12, t_6_15, t_6_16, t_6_17, t_6_18, t_6_21, t_6_24, t_6_27, t_6_30, t_6_33, t_6_34, trivial⟩
theorem t_7_0 : am_ok lw_Ts cX1_isAhead 3 RX1 0 (o_al 1 0) := so_al (Or.inl ⟨0, rfl, rfl, rfl⟩) (by decide +kernel)
theorem t_7_1 : am_ok lw_Ts cX1_isAhead 3 RX1 1 (o_gf 4 1 4) := so_gf cl_X1 (by decide) wt_276 (by decide +kernel)
theorem t_7_4 : am_ok lw_Ts cX1_isAhead 3 RX1 4 (o_il 5 1) := so_il (Or.inl ⟨1, rfl, rfl, rfl⟩) (by decide +kernel)
theorem t_7_5 : am_ok lw_Ts cX1_isAhead 3 RX1 5 (o_ia 6) := so_ia (by decide +kernel)
theorem t_7_6 : am_ok lw_Ts cX1_isAhead 3 RX1 6 (o_al 7 0) := so_al (Or.inl ⟨0, rfl, rfl, rfl⟩) (by decide +kernel)
theorem t_7_7 : am_ok lw_Ts cX1_isAhead 3 RX1 7 (o_gf 10 1 4) := so_gf cl_X1 (by decide) wt_276 (by decide +kernel)
theorem t_7_10 : am_ok lw_Ts cX1_isAhead 3 RX1 10 (o_il 11 2) := so_il (Or.inl ⟨2, rfl, rfl, rfl⟩) (by decide +kernel)
theorem t_7_11 : am_ok lw_Ts cX1_isAhead 3 RX1 11 (o_ia 12) := so_ia (by decide +kernel)
theorem t_7_12 : am_ok lw_Ts cX1_isAhead 3 RX1 12 (o_ic 36 15 r_eq) := so_ic_eq (off := 24) (by decide +kernel) rfl
theorem t_7_15 : am_ok lw_Ts cX1_isAhead 3 RX1 15 (o_al 16 0) := so_al (Or.inl ⟨0, rfl, rfl, rfl⟩) (by decide +kernel)
theorem t_7_16 : am_ok lw_Ts cX1_isAhead 3 RX1 16 (o_gf 19 1 4) := so_gf cl_X1 (by decide) wt_276 (by decide +kernel)
theorem t_7_19 : am_ok lw_Ts cX1_isAhead 3 RX1 19 (o_il 20 1) := so_il (Or.inl ⟨1, rfl, rfl, rfl⟩) (by decide +kernel)
theorem t_7_20 : am_ok lw_Ts cX1_isAhead 3 RX1 20 (o_ia 21) := so_ia (by decide +kernel)
theorem t_7_21 : am_ok lw_Ts cX1_isAhead 3 RX1 21 (o_al 22 0) := so_al (Or.inl ⟨0, rfl, rfl, rfl⟩) (by decide +kernel)
theorem t_7_22 : am_ok lw_Ts cX1_isAhead 3 RX1 22 (o_gf 25 1 4) := so_gf cl_X1 (by decide) wt_276 (by decide +kernel)
theorem t_7_25 : am_ok lw_Ts cX1_isAhead 3 RX1 25 (o_il 26 2) := so_il (Or.inl ⟨2, rfl, rfl, rfl⟩) (by decide +kernel)
theorem t_7_26 : am_ok lw_Ts cX1_isAhead 3 RX1 26 (o_ia 27) := so_ia (by decide +kernel)
theorem t_7_27 : am_ok lw_Ts cX1_isAhead 3 RX1 27 (o_ic 34 30 r_le) := so_ic_le (off := 7) (by decide +kernel) rfl
theorem t_7_30 : am_ok lw_Ts cX1_isAhead 3 RX1 30 (o_k 31 (vI (1))) := so_k (by decide +kernel)
theorem t_7_31 : am_ok lw_Ts cX1_isAhead 3 RX1 31 (o_go 35) := so_go (off := 4) (by decide +kernel) rfl
theorem t_7_34 : am_ok lw_Ts cX1_isAhead 3 RX1 34 (o_k 35 (vI (0))) := so_k (by decide +kernel)
theorem t_7_35 : am_okr cX1_isAhead 35 2 := (show decode cX1_isAhead 35 = .ok (.ireturn, 1) by decide +kernel)
theorem t_7_36 : am_ok lw_Ts cX1_isAhead 3 RX1 36 (o_al 37 0) := so_al (Or.inl ⟨0, rfl, rfl, rfl⟩) (by decide +kernel)
theorem t_7_37 : am_ok lw_Ts cX1_isAhead 3 RX1 37 (o_gf 40 1 0) := so_gf cl_X1 (by decide) wt_271 (by decide +kernel)
theorem t_7_40 : am_ok lw_Ts cX1_isAhead 3 RX1 40 (o_gf 43 0 0) := so_gf cl_X0 (by decide) wt_102 (by decide +kernel)
theorem t_7_43 : am_ok lw_Ts cX1_isAhead 3 RX1 43 (o_il 44 1) := so_il (Or.inl ⟨1, rfl, rfl, rfl⟩) (by decide +kernel)
theorem t_7_44 : am_ok lw_Ts cX1_isAhead 3 RX1 44 (o_ia 45) := so_ia (by decide +kernel)
theorem t_7_45 : am_ok lw_Ts cX1_isAhead 3 RX1 45 (o_al 46 0) := so_al (Or.inl ⟨0, rfl, rfl, rfl⟩) (by decide +kernel)
theorem t_7_46 : am_ok lw_Ts cX1_isAhead 3 RX1 46 (o_gf 49 1 0) := so_gf cl_X1 (by decide) wt_271 (by decide +kernel)
theorem t_7_49 : am_ok lw_Ts cX1_isAhead 3 RX1 49 (o_gf 52 0 0) := so_gf cl_X0 (by decide) wt_102 (by decide +kernel)
theorem t_7_52 : am_ok lw_Ts cX1_isAhead 3 RX1 52 (o_il 53 2) := so_il (Or.inl ⟨2, rfl, rfl, rfl⟩) (by decide +kernel)
theorem t_7_53 : am_ok lw_Ts cX1_isAhead 3 RX1 53 (o_ia 54) := so_ia (by decide +kernel)
theorem t_7_54 : am_ok lw_Ts cX1_isAhead 3 RX1 54 (o_ic 84 57 r_eq) := so_ic_eq (off := 30) (by decide +kernel) rfl
theorem t_7_57 : am_ok lw_Ts cX1_isAhead 3 RX1 57 (o_al 58 0) := so_al (Or.inl ⟨0, rfl, rfl, rfl⟩) (by decide +kernel)
theorem t_7_58 : am_ok lw_Ts cX1_isAhead 3 RX1 58 (o_gf 61 1 0) := so_gf cl_X1 (by decide) wt_271 (by decide +kernel)
theorem t_7_61 : am_ok lw_Ts cX1_isAhead 3 RX1 61 (o_gf 64 0 0) := so_gf cl_X0 (by decide) wt_102 (by decide +kernel)
theorem t_7_64 : am_ok lw_Ts cX1_isAhead 3 RX1 64 (o_il 65 1) := so_il (Or.inl ⟨1, rfl, rfl, rfl⟩) (by decide +kernel)
theorem t_7_65 : am_ok lw_Ts cX1_isAhead 3 RX1 65 (o_ia 66) := so_ia (by decide +kernel)
theorem t_7_66 : am_ok lw_Ts cX1_isAhead 3 RX1 66 (o_al 67 0) := so_al (Or.inl ⟨0, rfl, rfl, rfl⟩) (by decide +kernel)
theorem t_7_67 : am_ok lw_Ts cX1_isAhead 3 RX1 67 (o_gf 70 1 0) := so_gf cl_X1 (by decide) wt_271 (by decide +kernel)
theorem t_7_70 : am_ok lw_Ts cX1_isAhead 3 RX1 70 (o_gf 73 0 0) := so_gf cl_X0 (by decide) wt_102 (by decide +kernel)
theorem t_7_73 : am_ok lw_Ts cX1_isAhead 3 RX1 73 (o_il 74 2) := so_il (Or.inl ⟨2, rfl, rfl, rfl⟩) (by decide +kernel)
theorem t_7_74 : am_ok lw_Ts cX1_isAhead 3 RX1 74 (o_ia 75) := so_ia (by decide +kernel)
theorem t_7_75 : am_ok lw_Ts cX1_isAhead 3 RX1 75 (o_ic 82 78 r_le) := so_ic_le (off := 7) (by decide +kernel) rfl
theorem t_7_78 : am_ok lw_Ts cX1_isAhead 3 RX1 78 (o_k 79 (vI (1))) := so_k (by decide +kernel)
theorem t_7_79 : am_ok lw_Ts cX1_isAhead 3 RX1 79 (o_go 83) := so_go (off := 4) (by decide +kernel) rfl
theorem t_7_82 : am_ok lw_Ts cX1_isAhead 3 RX1 82 (o_k 83 (vI (0))) := so_k (by decide +kernel)
theorem t_7_83 : am_okr cX1_isAhead 83 2 := (show decode cX1_isAhead 83 = .ok (.ireturn, 1) by decide +kernel)
theorem t_7_84 : am_ok lw_Ts cX1_isAhead 3 RX1 84 (o_il 85 1) := so_il (Or.inl ⟨1, rfl, rfl, rfl⟩) (by decide +kernel)
theorem t_7_85 : am_ok lw_Ts cX1_isAhead 3 RX1 85 (o_il 86 2) := so_il (Or.inl ⟨2, rfl, rfl, rfl⟩) (by decide +kernel)
theorem t_7_86 : am_ok lw_Ts cX1_isAhead 3 RX1 86 (o_ic 93 89 r_ge) := so_ic_ge (off := 7) (by decide +kernel) rfl
theorem t_7_89 : am_ok lw_Ts cX1_isAhead 3 RX1 89 (o_k 90 (vI (1))) := so_k (by decide +kernel)
theorem t_7_90 : am_ok lw_Ts cX1_isAhead 3 RX1 90 (o_go 94) := so_go (off := 4) (by decide +kernel) rfl
theorem t_7_93 : am_ok lw_Ts cX1_isAhead 3 RX1 93 (o_k 94 (vI (0))) := so_k (by decide +kernel)
theorem t_7_94 : am_okr cX1_isAhead 94 2 := (show decode cX1_isAhead 94 = .ok (.ireturn, 1) by decide +kernel)
set_option maxRecDepth 20000 in
theorem ok_7 : am_okL gm_mi gm_mt lw_Ts lw_Ns 7 cd_7 := ⟨t_7_0, t_7_1, t_7_4, t_7_5, t_7_6, t_7_7, t_7_10, t_7_11, t_7_12, t_7_15, t_7_16, t_7_19, t_7_20, t_7_21, t_7_22, t_7_25, t_7_26, t_7_27, t_7_30, t_7_31, t_7_34, t_7_35, t_7_36, t_7_37, t_7_40, t_7_43, t_7_44, t_7_45, t_7_46, t_7_49, t_7_52, t_7_53, t_7_54, t_7_57, t_7_58, t_7_61, t_7_64, t_7_65, t_7_66, t_7_67, t_7_70, t_7_73, t_7_74, t_7_75, t_7_78, t_7_79, t_7_82, t_7_83, t_7_84, t_7_85, t_7_86, t_7_89, t_7_90, t_7_93, t_7_94, trivial⟩
theorem t_8_0 : am_ok lw_Ts cX2_has 2 RX2 0 (o_il 1 1) := so_il (Or.inl ⟨1, rfl, rfl, rfl⟩) (by decide +kernel)
theorem t_8_1 : am_ok lw_Ts cX2_has 2 RX2 1 (o_k 2 (vI (0))) := so_k (by decide +kernel)
theorem t_8_2 : am_ok lw_Ts cX2_has 2 RX2 2 (o_al 3 0) := so_al (Or.inl ⟨0, rfl, rfl, rfl⟩) (by decide +kernel)
theorem t_8_3 : am_ok lw_Ts cX2_has 2 RX2 3 (o_gf 6 2 2) := so_gf cl_X2 (by decide) wt_77 (by decide +kernel)
theorem t_8_6 : am_ok lw_Ts cX2_has 2 RX2 6 (o_k 7 (vI (1))) := so_k (by decide +kernel)
theorem t_8_7 : am_ok lw_Ts cX2_has 2 RX2 7 (o_ib 8 f_sub) := so_isub (by decide +kernel)
theorem t_8_8 : am_okc gm_mi gm_mt lw_Ts lw_Ns cX2_has RX2 8 66 3 := ⟨25, cf_66.1, cf_66.2.1, cf_66.2.2.1, cf_66.2.2.2, Or.inl ⟨rfl, (by decide +kernel), wt_312, by decide +kernel, (Or.inr ⟨"SeasonOfHours", by decide +kernel⟩)⟩⟩
theorem t_8_11 : am_okr cX2_has 11 2 := (show decode cX2_has 11 = .ok (.ireturn, 1) by decide +kernel)
set_option maxRecDepth 20000 in
theorem ok_8 : am_okL gm_mi gm_mt lw_Ts lw_Ns 8 cd_8 := ⟨t_8_0, t_8_1, t_8_2, t_8_3, t_8_6, t_8_7, t_8_8, t_8_11, trivial⟩
theorem t_9_0 : am_ok lw_Ts cX2_add 3 RX2 0 (o_al 1 0) := so_al (Or.inl ⟨0, rfl, rfl, rfl⟩) (by decide +kernel)
theorem t_9_1 : am_ok lw_Ts cX2_add 3 RX2 1 (o_gf 4 2 2) := so_gf cl_X2 (by decide) wt_77 (by decide +kernel)
theorem t_9_4 : am_ok lw_Ts cX2_add 3 RX2 4 (o_k 6 (vI (6))) := so_bp rfl (by decide +kernel)
theorem t_9_6 : am_ok lw_Ts cX2_add 3 RX2 6 (o_ic 11 9 r_lt) := so_ic_lt (off := 5) (by decide +kernel) rfl
theorem t_9_9 : am_ok lw_Ts cX2_add 3 RX2 9 (o_k 10 (vI (-1))) := so_k (by decide +kernel)
theorem t_9_10 : am_okr cX2_add 10 1 := (show decode cX2_add 10 = .ok (.ireturn, 1) by decide +kernel)
theorem t_9_11 : am_ok lw_Ts cX2_add 3 RX2 11 (o_al 12 0) := so_al (Or.inl ⟨0, rfl, rfl, rfl⟩) (by decide +kernel)
theorem t_9_12 : am_ok lw_Ts cX2_add 3 RX2 12 (o_gf 15 2 0) := so_gf cl_X2 (by decide) wt_73 (by decide +kernel)
theorem t_9_15 : am_ok lw_Ts cX2_add 3 RX2 15 (o_al 16 0) := so_al (Or.inl ⟨0, rfl, rfl, rfl⟩) (by decide +kernel)
theorem t_9_16 : am_ok lw_Ts cX2_add 3 RX2 16 (o_gf 19 2 2) := so_gf cl_X2 (by decide) wt_77 (by decide +kernel)
theorem t_9_19 : am_ok lw_Ts cX2_add 3 RX2 19 (o_il 20 1) := so_il (Or.inl ⟨1, rfl, rfl, rfl⟩) (by decide +kernel)
theorem t_9_20 : am_ok lw_Ts cX2_add 3 RX2 20 (o_iw 21) := so_iw (by decide +kernel)
theorem t_9_21 : am_ok lw_Ts cX2_add 3 RX2 21 (o_al 22 0) := so_al (Or.inl ⟨0, rfl, rfl, rfl⟩) (by decide +kernel)
theorem t_9_22 : am_ok lw_Ts cX2_add 3 RX2 22 (o_gf 25 2 1) := so_gf cl_X2 (by decide) wt_74 (by decide +kernel)
theorem t_9_25 : am_ok lw_Ts cX2_add 3 RX2 25 (o_al 26 0) := so_al (Or.inl ⟨0, rfl, rfl, rfl⟩) (by decide +kernel)
theorem t_9_26 : am_ok lw_Ts cX2_add 3 RX2 26 (o_gf 29 2 2) := so_gf cl_X2 (by decide) wt_77 (by decide +kernel)
theorem t_9_29 : am_ok lw_Ts cX2_add 3 RX2 29 (o_il 30 2) := so_il (Or.inl ⟨2, rfl, rfl, rfl⟩) (by decide +kernel)
theorem t_9_30 : am_ok lw_Ts cX2_add 3 RX2 30 (o_iw 31) := so_iw (by decide +kernel)
theorem t_9_31 : am_ok lw_Ts cX2_add 3 RX2 31 (o_al 32 0) := so_al (Or.inl ⟨0, rfl, rfl, rfl⟩) (by decide +kernel)
theorem t_9_32 : am_ok lw_Ts cX2_add 3 RX2 32 (o_dup 33) := so_dup (by decide +kernel)
theorem t_9_33 : am_ok lw_Ts cX2_add 3 RX2 33 (o_gf 36 2 2) := so_gf cl_X2 (by decide) wt_77 (by decide +kernel)
theorem t_9_36 : am_ok lw_Ts cX2_add 3 RX2 36 (o_k 37 (vI (1))) := so_k (by decide +kernel)
theorem t_9_37 : am_ok lw_Ts cX2_add 3 RX2 37 (o_ib 38 f_add) := so_iadd (by decide +kernel)
theorem t_9_38 : am_ok lw_Ts cX2_add 3 RX2 38 (o_pf 41 2 2) := so_pf cl_X2 tyX2_ok nmX2 (by decide) rfl rfl wt_77 (by decide +kernel)
theorem t_9_41 : am_ok lw_Ts cX2_add 3 RX2 41 (o_al 42 0) := so_al (Or.inl ⟨0, rfl, rfl, rfl⟩) (by decide +kernel)
theorem t_9_42 : am_ok lw_Ts cX2_add 3 RX2 42 (o_gf 45 2 2) := so_gf cl_X2 (by decide) wt_77 (by decide +kernel)
theorem t_9_45 : am_ok lw_Ts cX2_add 3 RX2 45 (o_k 46 (vI (1))) := so_k (by decide +kernel)
theorem t_9_46 : am_ok lw_Ts cX2_add 3 RX2 46 (o_ib 47 f_sub) := so_isub (by decide +kernel)
theorem t_9_47 : am_okr cX2_add 47 1 := (show decode cX2_add 47 = .ok (.ireturn, 1) by decide +kernel)
set_option maxRecDepth 20000 in
theorem ok_9 : am_okL gm_mi gm_mt lw_Ts lw_Ns 9 cd_9 := ⟨t_9_0, t_9_1, t_9_4, t_9_6, t_9_9, t_9_10, t_9_11, t_9_12, t_9_15, t_9_16, t_9_19, t_9_20, t_9_21, t_9_22, t_9_25, t_9_26, t_9_29, t_9_30, t_9_31, t_9_32, t_9_33, t_9_36, t_9_37, t_9_38, t_9_41, t_9_42, t_9_45, t_9_46, t_9_47, trivial⟩
theorem t_10_0 : am_ok lw_Ts cX2_shared 3 RX2 0 (o_al 1 0) := so_al (Or.inl ⟨0, rfl, rfl, rfl⟩) (by decide +kernel)
theorem t_10_1 : am_ok lw_Ts cX2_shared 3 RX2 1 (o_gf 4 2 0) := so_gf cl_X2 (by decide) wt_73 (by decide +kernel)
theorem t_10_4 : am_ok lw_Ts cX2_shared 3 RX2 4 (o_il 5 1) := so_il (Or.inl ⟨1, rfl, rfl, rfl⟩) (by decide +kernel)
theorem t_10_5 : am_ok lw_Ts cX2_shared 3 RX2 5 (o_ia 6) := so_ia (by decide +kernel)
theorem t_10_6 : am_ok lw_Ts cX2_shared 3 RX2 6 (o_al 7 0) := so_al (Or.inl ⟨0, rfl, rfl, rfl⟩) (by decide +kernel)
theorem t_10_7 : am_ok lw_Ts cX2_shared 3 RX2 7 (o_gf 10 2 0) := so_gf cl_X2 (by decide) wt_73 (by decide +kernel)
theorem t_10_10 : am_ok lw_Ts cX2_shared 3 RX2 10 (o_il 11 2) := so_il (Or.inl ⟨2, rfl, rfl, rfl⟩) (by decide +kernel)
theorem t_10_11 : am_ok lw_Ts cX2_shared 3 RX2 11 (o_ia 12) := so_ia (by decide +kernel)
theorem t_10_12 : am_ok lw_Ts cX2_shared 3 RX2 12 (o_ib 13 f_and) := so_iand (by decide +kernel)
theorem t_10_13 : am_okc gm_mi gm_mt lw_Ts lw_Ns cX2_shared RX2 13 112 1 := ⟨29, cf_112.1, cf_112.2.1, cf_112.2.2.1, cf_112.2.2.2, Or.inl ⟨rfl, (by decide +kernel), wt_369, by decide +kernel, (Or.inl wt_368)⟩⟩
theorem t_10_16 : am_okr cX2_shared 16 1 := (show decode cX2_shared 16 = .ok (.ireturn, 1) by decide +kernel)
set_option maxRecDepth 20000 in
theorem ok_10 : am_okL gm_mi gm_mt lw_Ts lw_Ns 10 cd_10 := ⟨t_10_0, t_10_1, t_10_4, t_10_5, t_10_6, t_10_7, t_10_10, t_10_11, t_10_12, t_10_13, t_10_16, trivial⟩
theorem t_11_0 : am_ok lw_Ts cX2_areTooNear 3 RX2 0 (o_al 1 0) := so_al (Or.inl ⟨0, rfl, rfl, rfl⟩) (by decide +kernel)
theorem t_11_1 : am_ok lw_Ts cX2_areTooNear 3 RX2 1 (o_il 2 1) := so_il (Or.inl ⟨1, rfl, rfl, rfl⟩) (by decide +kernel)
theorem t_11_2 : am_ok lw_Ts cX2_areTooNear 3 RX2 2 (o_il 3 2) := so_il (Or.inl ⟨2, rfl, rfl, rfl⟩) (by decide +kernel)
theorem t_11_3 : am_okc gm_mi gm_mt lw_Ts lw_Ns cX2_areTooNear RX2 3 10 3 := ⟨35, cf_10.1, cf_10.2.1, cf_10.2.2.1, cf_10.2.2.2, Or.inr ⟨2, 2, TX2, 4, rfl, rfl, rfl, (by decide +kernel), wt_365, wt_366, wt_434, by decide +kernel⟩⟩
theorem t_11_6 : am_ok lw_Ts cX2_areTooNear 3 RX2 6 (o_al 7 0) := so_al (Or.inl ⟨0, rfl, rfl, rfl⟩) (by decide +kernel)
theorem t_11_7 : am_ok lw_Ts cX2_areTooNear 3 RX2 7 (o_gf 10 2 3) := so_gf cl_X2 (by decide) wt_80 (by decide +kernel)
theorem t_11_10 : am_ok lw_Ts cX2_areTooNear 3 RX2 10 (o_ic 17 13 r_le) := so_ic_le (off := 7) (by decide +kernel) rfl
theorem t_11_13 : am_ok lw_Ts cX2_areTooNear 3 RX2 13 (o_k 14 (vI (1))) := so_k (by decide +kernel)
theorem t_11_14 : am_ok lw_Ts cX2_areTooNear 3 RX2 14 (o_go 18) := so_go (off := 4) (by decide +kernel) rfl
theorem t_11_17 : am_ok lw_Ts cX2_areTooNear 3 RX2 17 (o_k 18 (vI (0))) := so_k (by decide +kernel)
theorem t_11_18 : am_okr cX2_areTooNear 18 2 := (show decode cX2_areTooNear 18 = .ok (.ireturn, 1) by decide +kernel)
set_option maxRecDepth 20000 in
theorem ok_11 : am_okL gm_mi gm_mt lw_Ts lw_Ns 11 cd_11 := ⟨t_11_0, t_11_1, t_11_2, t_11_3, t_11_6, t_11_7, t_11_10, t_11_13, t_11_14, t_11_17, t_11_18, trivial⟩
theorem t_12_0 : am_ok lw_Ts cX3_has 2 RX3 0 (o_il 1 1) := so_il (Or.inl ⟨1, rfl, rfl, rfl⟩) (by decide +kernel)
theorem t_12_1 : am_ok lw_Ts cX3_has 2 RX3 1 (o_k 2 (vI (0))) := so_k (by decide +kernel)
theorem t_12_2 : am_ok lw_Ts cX3_has 2 RX3 2 (o_al 3 0) := so_al (Or.inl ⟨0, rfl, rfl, rfl⟩) (by decide +kernel)
theorem t_12_3 : am_ok lw_Ts cX3_has 2 RX3 3 (o_gf 6 3 9) := so_gf cl_X3 (by decide) wt_233 (by decide +kernel)
theorem t_12_6 : am_ok lw_Ts cX3_has 2 RX3 6 (o_k 7 (vI (1))) := so_k (by decide +kernel)
theorem t_12_7 : am_ok lw_Ts cX3_has 2 RX3 7 (o_ib 8 f_sub) := so_isub (by decide +kernel)
theorem t_12_8 : am_okc gm_mi gm_mt lw_Ts lw_Ns cX3_has RX3 8 66 3 := ⟨50, cf_66.1, cf_66.2.1, cf_66.2.2.1, cf_66.2.2.2, Or.inl ⟨rfl, (by decide +kernel), wt_312, by decide +kernel, (Or.inr ⟨"SeasonOfHours", by decide +kernel⟩)⟩⟩
theorem t_12_11 : am_okr cX3_has 11 2 := (show decode cX3_has 11 = .ok (.ireturn, 1) by decide +kernel)
set_option maxRecDepth 20000 in
theorem ok_12 : am_okL gm_mi gm_mt lw_Ts lw_Ns 12 cd_12 := ⟨t_12_0, t_12_1, t_12_2, t_12_3, t_12_6, t_12_7, t_12_8, t_12_11, trivial⟩
theorem t_13_0 : am_ok lw_Ts cX3_add 5 RX3 0 (o_al 1 0) := so_al (Or.inl ⟨0, rfl, rfl, rfl⟩) (by decide +kernel)
theorem t_13_1 : am_ok lw_Ts cX3_add 5 RX3 1 (o_gf 4 3 9) := so_gf cl_X3 (by decide) wt_233 (by decide +kernel)
theorem t_13_4 : am_ok lw_Ts cX3_add 5 RX3 4 (o_k 6 (vI (10))) := so_bp rfl (by decide +kernel)
theorem t_13_6 : am_ok lw_Ts cX3_add 5 RX3 6 (o_ic 11 9 r_lt) := so_ic_lt (off := 5) (by decide +kernel) rfl
theorem t_13_9 : am_ok lw_Ts cX3_add 5 RX3 9 (o_k 10 (vI (-1))) := so_k (by decide +kernel)
theorem t_13_10 : am_okr cX3_add 10 1 := (show decode cX3_add 10 = .ok (.ireturn, 1) by decide +kernel)
theorem t_13_11 : am_ok lw_Ts cX3_add 5 RX3 11 (o_al 12 0) := so_al (Or.inl ⟨0, rfl, rfl, rfl⟩) (by decide +kernel)
theorem t_13_12 : am_ok lw_Ts cX3_add 5 RX3 12 (o_gf 15 3 1) := so_gf cl_X3 (by decide) wt_223 (by decide +kernel)
theorem t_13_15 : am_ok lw_Ts cX3_add 5 RX3 15 (o_al 16 0) := so_al (Or.inl ⟨0, rfl, rfl, rfl⟩) (by decide +kernel)
theorem t_13_16 : am_ok lw_Ts cX3_add 5 RX3 16 (o_gf 19 3 9) := so_gf cl_X3 (by decide) wt_233 (by decide +kernel)
theorem t_13_19 : am_ok lw_Ts cX3_add 5 RX3 19 (o_il 20 1) := so_il (Or.inl ⟨1, rfl, rfl, rfl⟩) (by decide +kernel)
theorem t_13_20 : am_ok lw_Ts cX3_add 5 RX3 20 (o_iw 21) := so_iw (by decide +kernel)
theorem t_13_21 : am_ok lw_Ts cX3_add 5 RX3 21 (o_al 22 0) := so_al (Or.inl ⟨0, rfl, rfl, rfl⟩) (by decide +kernel)
theorem t_13_22 : am_ok lw_Ts cX3_add 5 RX3 22 (o_gf 25 3 2) := so_gf cl_X3 (by decide) wt_224 (by decide +kernel)
theorem t_13_25 : am_ok lw_Ts cX3_add 5 RX3 25 (o_al 26 0) := so_al (Or.inl ⟨0, rfl, rfl, rfl⟩) (by decide +kernel)
theorem t_13_26 : am_ok lw_Ts cX3_add 5 RX3 26 (o_gf 29 3 9) := so_gf cl_X3 (by decide) wt_233 (by decide +kernel)
theorem t_13_29 : am_ok lw_Ts cX3_add 5 RX3 29 (o_il 30 2) := so_il (Or.inl ⟨2, rfl, rfl, rfl⟩) (by decide +kernel)
theorem t_13_30 : am_ok lw_Ts cX3_add 5 RX3 30 (o_iw 31) := so_iw (by decide +kernel)
theorem t_13_31 : am_ok lw_Ts cX3_add 5 RX3 31 (o_al 32 0) := so_al (Or.inl ⟨0, rfl, rfl, rfl⟩) (by decide +kernel)
theorem t_13_32 : am_ok lw_Ts cX3_add 5 RX3 32 (o_gf 35 3 3) := so_gf cl_X3 (by decide) wt_225 (by decide +kernel)
theorem t_13_35 : am_ok lw_Ts cX3_add 5 RX3 35 (o_al 36 0) := so_al (Or.inl ⟨0, rfl, rfl, rfl⟩) (by decide +kernel)
theorem t_13_36 : am_ok lw_Ts cX3_add 5 RX3 36 (o_gf 39 3 9) := so_gf cl_X3 (by decide) wt_233 (by decide +kernel)
theorem t_13_39 : am_ok lw_Ts cX3_add 5 RX3 39 (o_il 40 3) := so_il (Or.inl ⟨3, rfl, rfl, rfl⟩) (by decide +kernel)
theorem t_13_40 : am_ok lw_Ts cX3_add 5 RX3 40 (o_iw 41) := so_iw (by decide +kernel)
theorem t_13_41 : am_ok lw_Ts cX3_add 5 RX3 41 (o_al 42 0) := so_al (Or.inl ⟨0, rfl, rfl, rfl⟩) (by decide +kernel)
theorem t_13_42 : am_ok lw_Ts cX3_add 5 RX3 42 (o_gf 45 3 4) := so_gf cl_X3 (by decide) wt_226 (by decide +kernel)
theorem t_13_45 : am_ok lw_Ts cX3_add 5 RX3 45 (o_al 46 0) := so_al (Or.inl ⟨0, rfl, rfl, rfl⟩) (by decide +kernel)
theorem t_13_46 : am_ok lw_Ts cX3_add 5 RX3 46 (o_gf 49 3 9) := so_gf cl_X3 (by decide) wt_233 (by decide +kernel)
theorem t_13_49 : am_ok lw_Ts cX3_add 5 RX3 49 (o_k 50 (vI (-1))) := so_k (by decide +kernel)
theorem t_13_50 : am_ok lw_Ts cX3_add 5 RX3 50 (o_iw 51) := so_iw (by decide +kernel)
theorem t_13_51 : am_ok lw_Ts cX3_add 5 RX3 51 (o_al 52 0) := so_al (Or.inl ⟨0, rfl, rfl, rfl⟩) (by decide +kernel)
theorem t_13_52 : am_ok lw_Ts cX3_add 5 RX3 52 (o_al 53 0) := so_al (Or.inl ⟨0, rfl, rfl, rfl⟩) (by decide +kernel)
theorem t_13_53 : am_ok lw_Ts cX3_add 5 RX3 53 (o_gf 56 3 8) := so_gf cl_X3 (by decide) wt_232 (by decide +kernel)
theorem t_13_56 : am_ok lw_Ts cX3_add 5 RX3 56 (o_al 57 0) := so_al (Or.inl ⟨0, rfl, rfl, rfl⟩) (by decide +kernel)
theorem t_13_57 : am_ok lw_Ts cX3_add 5 RX3 57 (o_gf 60 3 9) := so_gf cl_X3 (by decide) wt_233 (by decide +kernel)
theorem t_13_60 : am_ok lw_Ts cX3_add 5 RX3 60 (o_il 62 4) := so_il (Or.inr ⟨rfl, rfl⟩) (by decide +kernel)
theorem t_13_62 : am_okc gm_mi gm_mt lw_Ts lw_Ns cX3_add RX3 62 68 3 := ⟨54, cf_68.1, cf_68.2.1, cf_68.2.2.1, cf_68.2.2.2, Or.inl ⟨rfl, (by decide +kernel), wt_345, by decide +kernel, (Or.inr ⟨"SeasonOfHours", by decide +kernel⟩)⟩⟩
theorem t_13_65 : am_ok lw_Ts cX3_add 5 RX3 65 (o_pf 68 3 8) := so_pf cl_X3 tyX3_ok nmX3 (by decide) rfl rfl wt_232 (by decide +kernel)
theorem t_13_68 : am_ok lw_Ts cX3_add 5 RX3 68 (o_al 69 0) := so_al (Or.inl ⟨0, rfl, rfl, rfl⟩) (by decide +kernel)
theorem t_13_69 : am_ok lw_Ts cX3_add 5 RX3 69 (o_dup 70) := so_dup (by decide +kernel)
theorem t_13_70 : am_ok lw_Ts cX3_add 5 RX3 70 (o_gf 73 3 9) := so_gf cl_X3 (by decide) wt_233 (by decide +kernel)
theorem t_13_73 : am_ok lw_Ts cX3_add 5 RX3 73 (o_k 74 (vI (1))) := so_k (by decide +kernel)
theorem t_13_74 : am_ok lw_Ts cX3_add 5 RX3 74 (o_ib 75 f_add) := so_iadd (by decide +kernel)
theorem t_13_75 : am_ok lw_Ts cX3_add 5 RX3 75 (o_pf 78 3 9) := so_pf cl_X3 tyX3_ok nmX3 (by decide) rfl rfl wt_233 (by decide +kernel)
theorem t_13_78 : am_ok lw_Ts cX3_add 5 RX3 78 (o_al 79 0) := so_al (Or.inl ⟨0, rfl, rfl, rfl⟩) (by decide +kernel)
theorem t_13_79 : am_ok lw_Ts cX3_add 5 RX3 79 (o_gf 82 3 9) := so_gf cl_X3 (by decide) wt_233 (by decide +kernel)
theorem t_13_82 : am_ok lw_Ts cX3_add 5 RX3 82 (o_k 83 (vI (1))) := so_k (by decide +kernel)
theorem t_13_83 : am_ok lw_Ts cX3_add 5 RX3 83 (o_ib 84 f_sub) := so_isub (by decide +kernel)
theorem t_13_84 : am_okr cX3_add 84 1 := (show decode cX3_add 84 = .ok (.ireturn, 1) by decide +kernel)
set_option maxRecDepth 20000 in
theorem ok_13 : am_okL gm_mi gm_mt lw_Ts lw_Ns 13 cd_13 := ⟨t_13_0, t_13_1, t_13_4, t_13_6, t_13_9, t_13_10, t_13_11, t_13_12, t_13_15, t_13_16, t_13_19, t_13_20, t_13_21, t_13_22, t_13_25, t_13_26, t_13_29, t_13_30, t_13_31, t_13_32, t_13_35, t_13_36, t_13_39, t_13_40, t_13_41, t_13_42, t_13_45, t_13_46, t_13_49, t_13_50, t_13_51, t_13_52, t_13_53, t_13_56, t_13_57, t_13_60, t_13_62, t_13_65, t_13_68, t_13_69, t_13_70, t_13_73, t_13_74, t_13_75, t_13_78, t_13_79, t_13_82, t_13_83, t_13_84, trivial⟩
theorem t_14_0 : am_ok lw_Ts cX3_findRow 6 RX3 0 (o_al 1 0) := so_al (Or.inl ⟨0, rfl, rfl, rfl⟩) (by decide +kernel)
theorem t_14_1 : am_ok lw_Ts cX3_findRow 6 RX3 1 (o_il 2 1) := so_il (Or.inl ⟨1, rfl, rfl, rfl⟩) (by decide +kernel)
theorem t_14_2 : am_okc gm_mi gm_mt lw_Ts lw_Ns cX3_findRow RX3 2 15 2 := ⟨58, cf_15.1, cf_15.2.1, cf_15.2.2.1, cf_15.2.2.2, Or.inr ⟨3, 1, TX3, 12, rfl, rfl, rfl, (by decide +kernel), wt_532, wt_13, wt_530, by decide +kernel⟩⟩
theorem t_14_5 : am_ok lw_Ts cX3_findRow 6 RX3 5 (o_is 6 3) := so_is (Or.inl ⟨3, rfl, rfl, rfl⟩) (by decide +kernel)
theorem t_14_6 : am_ok lw_Ts cX3_findRow 6 RX3 6 (o_al 7 0) := so_al (Or.inl ⟨0, rfl, rfl, rfl⟩) (by decide +kernel)
theorem t_14_7 : am_okc gm_mi gm_mt lw_Ts lw_Ns cX3_findRow RX3 7 16 1 := ⟨62, cf_16.1, cf_16.2.1, cf_16.2.2.1, cf_16.2.2.2, Or.inr ⟨3, 0, TX3, 12, rfl, rfl, rfl, (by decide +kernel), wt_539, wt_14, wt_537, by decide +kernel⟩⟩
theorem t_14_10 : am_ok lw_Ts cX3_findRow 6 RX3 10 (o_k 11 (vI (0))) := so_k (by decide +kernel)
theorem t_14_11 : am_ok lw_Ts cX3_findRow 6 RX3 11 (o_is 13 4) := so_is (Or.inr ⟨rfl, rfl⟩) (by decide +kernel)
theorem t_14_13 : am_ok lw_Ts cX3_findRow 6 RX3 13 (o_k 14 (vI (1))) := so_k (by decide +kernel)
theorem t_14_14 : am_ok lw_Ts cX3_findRow 6 RX3 14 (o_is 16 5) := so_is (Or.inr ⟨rfl, rfl⟩) (by decide +kernel)
theorem t_14_16 : am_ok lw_Ts cX3_findRow 6 RX3 16 (o_il 18 5) := so_il (Or.inr ⟨rfl, rfl⟩) (by decide +kernel)
theorem t_14_18 : am_ok lw_Ts cX3_findRow 6 RX3 18 (o_k 19 (vI (1))) := so_k (by decide +kernel)
theorem t_14_19 : am_ok lw_Ts cX3_findRow 6 RX3 19 (o_al 20 0) := so_al (Or.inl ⟨0, rfl, rfl, rfl⟩) (by decide +kernel)
theorem t_14_20 : am_ok lw_Ts cX3_findRow 6 RX3 20 (o_gf 23 3 9) := so_gf cl_X3 (by decide) wt_233 (by decide +kernel)
theorem t_14_23 : am_ok lw_Ts cX3_findRow 6 RX3 23 (o_ib 24 f_shl) := so_ishl (by decide +kernel)
theorem t_14_24 : am_ok lw_Ts cX3_findRow 6 RX3 24 (o_ic 80 27 r_ge) := so_ic_ge (off := 56) (by decide +kernel) rfl
theorem t_14_27 : am_ok lw_Ts cX3_findRow 6 RX3 27 (o_il 29 5) := so_il (Or.inr ⟨rfl, rfl⟩) (by decide +kernel)
theorem t_14_29 : am_ok lw_Ts cX3_findRow 6 RX3 29 (o_il 30 3) := so_il (Or.inl ⟨3, rfl, rfl, rfl⟩) (by decide +kernel)
theorem t_14_30 : am_ok lw_Ts cX3_findRow 6 RX3 30 (o_k 31 (vI (-1))) := so_k (by decide +kernel)
theorem t_14_31 : am_ok lw_Ts cX3_findRow 6 RX3 31 (o_ib 32 f_xor) := so_ixor (by decide +kernel)
theorem t_14_32 : am_ok lw_Ts cX3_findRow 6 RX3 32 (o_ib 33 f_and) := so_iand (by decide +kernel)
theorem t_14_33 : am_ok lw_Ts cX3_findRow 6 RX3 33 (o_if 74 36 q_ne) := so_if_ne (off := 41) (by decide +kernel) rfl
theorem t_14_36 : am_ok lw_Ts cX3_findRow 6 RX3 36 (o_al 37 0) := so_al (Or.inl ⟨0, rfl, rfl, rfl⟩) (by decide +kernel)
theorem t_14_37 : am_ok lw_Ts cX3_findRow 6 RX3 37 (o_gf 40 3 7) := so_gf cl_X3 (by decide) wt_231 (by decide +kernel)
theorem t_14_40 : am_ok lw_Ts cX3_findRow 6 RX3 40 (o_il 42 5) := so_il (Or.inr ⟨rfl, rfl⟩) (by decide +kernel)
theorem t_14_42 : am_ok lw_Ts cX3_findRow 6 RX3 42 (o_al 43 0) := so_al (Or.inl ⟨0, rfl, rfl, rfl⟩) (by decide +kernel)
theorem t_14_43 : am_ok lw_Ts cX3_findRow 6 RX3 43 (o_il 45 5) := so_il (Or.inr ⟨rfl, rfl⟩) (by decide +kernel)
theorem t_14_45 : am_okc gm_mi gm_mt lw_Ts lw_Ns cX3_findRow RX3 45 17 2 := ⟨65, cf_17.1, cf_17.2.1, cf_17.2.2.1, cf_17.2.2.2, Or.inr ⟨3, 1, TX3, 12, rfl, rfl, rfl, (by decide +kernel), wt_544, wt_15, wt_542, by decide +kernel⟩⟩
theorem t_14_48 : am_ok lw_Ts cX3_findRow 6 RX3 48 (o_iw 49) := so_iw (by decide +kernel)
theorem t_14_49 : am_ok lw_Ts cX3_findRow 6 RX3 49 (o_al 50 0) := so_al (Or.inl ⟨0, rfl, rfl, rfl⟩) (by decide +kernel)
theorem t_14_50 : am_ok lw_Ts cX3_findRow 6 RX3 50 (o_il 52 5) := so_il (Or.inr ⟨rfl, rfl⟩) (by decide +kernel)
theorem t_14_52 : am_ok lw_Ts cX3_findRow 6 RX3 52 (o_il 53 2) := so_il (Or.inl ⟨2, rfl, rfl, rfl⟩) (by decide +kernel)
theorem t_14_53 : am_okc gm_mi gm_mt lw_Ts lw_Ns cX3_findRow RX3 53 18 3 := ⟨68, cf_18.1, cf_18.2.1, cf_18.2.2.1, cf_18.2.2.2, Or.inr ⟨3, 2, TX3, 12, rfl, rfl, rfl, (by decide +kernel), wt_549, wt_16, wt_547, by decide +kernel⟩⟩
theorem t_14_56 : am_ok lw_Ts cX3_findRow 6 RX3 56 (o_if 74 59 q_eq) := so_if_eq (off := 18) (by decide +kernel) rfl
theorem t_14_59 : am_ok lw_Ts cX3_findRow 6 RX3 59 (o_al 60 0) := so_al (Or.inl ⟨0, rfl, rfl, rfl⟩) (by decide +kernel)
theorem t_14_60 : am_ok lw_Ts cX3_findRow 6 RX3 60 (o_il 62 5) := so_il (Or.inr ⟨rfl, rfl⟩) (by decide +kernel)
theorem t_14_62 : am_ok lw_Ts cX3_findRow 6 RX3 62 (o_il 64 4) := so_il (Or.inr ⟨rfl, rfl⟩) (by decide +kernel)
theorem t_14_64 : am_okc gm_mi gm_mt lw_Ts lw_Ns cX3_findRow RX3 64 19 3 := ⟨72, cf_19.1, cf_19.2.1, cf_19.2.2.1, cf_19.2.2.2, Or.inr ⟨3, 2, TX3, 12, rfl, rfl, rfl, (by decide +kernel), wt_558, wt_18, wt_556, by decide +kernel⟩⟩
theorem t_14_67 : am_ok lw_Ts cX3_findRow 6 RX3 67 (o_if 74 70 q_eq) := so_if_eq (off := 7) (by decide +kernel) rfl
theorem t_14_70 : am_ok lw_Ts cX3_findRow 6 RX3 70 (o_il 72 5) := so_il (Or.inr ⟨rfl, rfl⟩) (by decide +kernel)
theorem t_14_72 : am_ok lw_Ts cX3_findRow 6 RX3 72 (o_is 74 4) := so_is (Or.inr ⟨rfl, rfl⟩) (by decide +kernel)
theorem t_14_74 : am_ok lw_Ts cX3_findRow 6 RX3 74 (o_ii 77 5 (1)) := so_ii (by decide +kernel)
theorem t_14_77 : am_ok lw_Ts cX3_findRow 6 RX3 77 (o_go 16) := so_go (off := (-61)) (by decide +kernel) rfl
theorem t_14_80 : am_ok lw_Ts cX3_findRow 6 RX3 80 (o_il 82 4) := so_il (Or.inr ⟨rfl, rfl⟩) (by decide +kernel)
theorem t_14_82 : am_ok lw_Ts cX3_findRow 6 RX3 82 (o_if 87 85 q_ne) := so_if_ne (off := 5) (by decide +kernel) rfl
theorem t_14_85 : am_ok lw_Ts cX3_findRow 6 RX3 85 (o_k 86 (vI (-1))) := so_k (by decide +kernel)
theorem t_14_86 : am_okr cX3_findRow 86 1 := (show decode cX3_findRow 86 = .ok (.ireturn, 1) by decide +kernel)
theorem t_14_87 : am_ok lw_Ts cX3_findRow 6 RX3 87 (o_al 88 0) := so_al (Or.inl ⟨0, rfl, rfl, rfl⟩) (by decide +kernel)
theorem t_14_88 : am_ok lw_Ts cX3_findRow 6 RX3 88 (o_il 90 4) := so_il (Or.inr ⟨rfl, rfl⟩) (by decide +kernel)
theorem t_14_90 : am_okc gm_mi gm_mt lw_Ts lw_Ns cX3_findRow RX3 90 22 2 := ⟨75, cf_22.1, cf_22.2.1, cf_22.2.2.1, cf_22.2.2.2, Or.inr ⟨3, 1, TX3, 12, rfl, rfl, rfl, (by decide +kernel), wt_571, wt_20, wt_569, by decide +kernel⟩⟩
theorem t_14_93 : am_ok lw_Ts cX3_findRow 6 RX3 93 (o_al 94 0) := so_al (Or.inl ⟨0, rfl, rfl, rfl⟩) (by decide +kernel)
theorem t_14_94 : am_ok lw_Ts cX3_findRow 6 RX3 94 (o_al 95 0) := so_al (Or.inl ⟨0, rfl, rfl, rfl⟩) (by decide +kernel)
theorem t_14_95 : am_ok lw_Ts cX3_findRow 6 RX3 95 (o_gf 98 3 3) := so_gf cl_X3 (by decide) wt_225 (by decide +kernel)
theorem t_14_98 : am_ok lw_Ts cX3_findRow 6 RX3 98 (o_il 100 4) := so_il (Or.inr ⟨rfl, rfl⟩) (by decide +kernel)
theorem t_14_100 : am_okc gm_mi gm_mt lw_Ts lw_Ns cX3_findRow RX3 100 20 3 := ⟨79, cf_20.1, cf_20.2.1, cf_20.2.2.1, cf_20.2.2.2, Or.inr ⟨3, 2, TX3, 12, rfl, rfl, rfl, (by decide +kernel), wt_554, wt_17, wt_552, by decide +kernel⟩⟩
theorem t_14_103 : am_okr cX3_findRow 103 1 := (show decode cX3_findRow 103 = .ok (.ireturn, 1) by decide +kernel)
set_option maxRecDepth 20000 in
theorem ok_14 : am_okL gm_mi gm_mt lw_Ts lw_Ns 14 cd_14 := ⟨t_14_0, t_14_1, t_14_2, t_14_5, t_14_6, t_14_7, t_14_10, t_14_11, t_14_13, t_14_14, t_14_16, t_14_18, t_14_19, t_14_20, t_14_23, t_14_24, t_14_27, t_14_29, t_14_30, t_14_31, t_14_32, t_14_33, t_14_36, t_14_37, t_14_40, t_14_42, t_14_43, t_14_45, t_14_48, t_14_49, t_14_50, t_14_52, t_14_53, t_14_56, t_14_59, t_14_60, t_14_62, t_14_64, t_14_67, t_14_70, t_14_72, t_14_74, t_14_77, t_14_80, t_14_82, t_14_85, t_14_86, t_14_87, t_14_88, t_14_90, t_14_93, t_14_94, t_14_95, t_14_98, t_14_100, t_14_103, trivial⟩
theorem t_15_0 : am_ok lw_Ts cX3_readyOn 5 RX3 0 (o_k 1 (vI (0))) := so_k (by decide +kernel)
theorem t_15_1 : am_ok lw_Ts cX3_readyOn 5 RX3 1 (o_is 2 2) := so_is (Or.inl ⟨2, rfl, rfl, rfl⟩) (by decide +kernel)
theorem t_15_2 : am_ok lw_Ts cX3_readyOn 5 RX3 2 (o_k 3 (vI (0))) := so_k (by decide +kernel)
theorem t_15_3 : am_ok lw_Ts cX3_readyOn 5 RX3 3 (o_is 4 3) := so_is (Or.inl ⟨3, rfl, rfl, rfl⟩) (by decide +kernel)
theorem t_15_4 : am_ok lw_Ts cX3_readyOn 5 RX3 4 (o_il 5 3) := so_il (Or.inl ⟨3, rfl, rfl, rfl⟩) (by decide +kernel)
theorem t_15_5 : am_ok lw_Ts cX3_readyOn 5 RX3 5 (o_al 6 0) := so_al (Or.inl ⟨0, rfl, rfl, rfl⟩) (by decide +kernel)
theorem t_15_6 : am_ok lw_Ts cX3_readyOn 5 RX3 6 (o_gf 9 3 9) := so_gf cl_X3 (by decide) wt_233 (by decide +kernel)
theorem t_15_9 : am_ok lw_Ts cX3_readyOn 5 RX3 9 (o_ic 61 12 r_ge) := so_ic_ge (off := 52) (by decide +kernel) rfl
theorem t_15_12 : am_ok lw_Ts cX3_readyOn 5 RX3 12 (o_al 13 0) := so_al (Or.inl ⟨0, rfl, rfl, rfl⟩) (by decide +kernel)
theorem t_15_13 : am_ok lw_Ts cX3_readyOn 5 RX3 13 (o_gf 16 3 4) := so_gf cl_X3 (by decide) wt_226 (by decide +kernel)
theorem t_15_16 : am_ok lw_Ts cX3_readyOn 5 RX3 16 (o_il 17 3) := so_il (Or.inl ⟨3, rfl, rfl, rfl⟩) (by decide +kernel)
theorem t_15_17 : am_ok lw_Ts cX3_readyOn 5 RX3 17 (o_ia 18) := so_ia (by decide +kernel)
theorem t_15_18 : am_ok lw_Ts cX3_readyOn 5 RX3 18 (o_k 19 (vI (-1))) := so_k (by decide +kernel)
theorem t_15_19 : am_ok lw_Ts cX3_readyOn 5 RX3 19 (o_ic 40 22 r_eq) := so_ic_eq (off := 21) (by decide +kernel) rfl
theorem t_15_22 : am_ok lw_Ts cX3_readyOn 5 RX3 22 (o_il 23 1) := so_il (Or.inl ⟨1, rfl, rfl, rfl⟩) (by decide +kernel)
theorem t_15_23 : am_ok lw_Ts cX3_readyOn 5 RX3 23 (o_al 24 0) := so_al (Or.inl ⟨0, rfl, rfl, rfl⟩) (by decide +kernel)
theorem t_15_24 : am_ok lw_Ts cX3_readyOn 5 RX3 24 (o_gf 27 3 4) := so_gf cl_X3 (by decide) wt_226 (by decide +kernel)
theorem t_15_27 : am_ok lw_Ts cX3_readyOn 5 RX3 27 (o_il 28 3) := so_il (Or.inl ⟨3, rfl, rfl, rfl⟩) (by decide +kernel)
theorem t_15_28 : am_ok lw_Ts cX3_readyOn 5 RX3 28 (o_ia 29) := so_ia (by decide +kernel)
theorem t_15_29 : am_ok lw_Ts cX3_readyOn 5 RX3 29 (o_ib 30 f_sub) := so_isub (by decide +kernel)
theorem t_15_30 : am_okc gm_mi gm_mt lw_Ts lw_Ns cX3_readyOn RX3 30 114 1 := ⟨83, cf_114.1, cf_114.2.1, cf_114.2.2.1, cf_114.2.2.2, Or.inl ⟨rfl, (by decide +kernel), wt_535, by decide +kernel, (Or.inl wt_534)⟩⟩
theorem t_15_33 : am_ok lw_Ts cX3_readyOn 5 RX3 33 (o_al 34 0) := so_al (Or.inl ⟨0, rfl, rfl, rfl⟩) (by decide +kernel)
theorem t_15_34 : am_ok lw_Ts cX3_readyOn 5 RX3 34 (o_gf 37 3 10) := so_gf cl_X3 (by decide) wt_235 (by decide +kernel)
theorem t_15_37 : am_ok lw_Ts cX3_readyOn 5 RX3 37 (o_ic 44 40 r_lt) := so_ic_lt (off := 7) (by decide +kernel) rfl
theorem t_15_40 : am_ok lw_Ts cX3_readyOn 5 RX3 40 (o_k 41 (vI (1))) := so_k (by decide +kernel)
theorem t_15_41 : am_ok lw_Ts cX3_readyOn 5 RX3 41 (o_go 45) := so_go (off := 4) (by decide +kernel) rfl
theorem t_15_44 : am_ok lw_Ts cX3_readyOn 5 RX3 44 (o_k 45 (vI (0))) := so_k (by decide +kernel)
theorem t_15_45 : am_ok lw_Ts cX3_readyOn 5 RX3 45 (o_is 47 4) := so_is (Or.inr ⟨rfl, rfl⟩) (by decide +kernel)
theorem t_15_47 : am_ok lw_Ts cX3_readyOn 5 RX3 47 (o_il 48 2) := so_il (Or.inl ⟨2, rfl, rfl, rfl⟩) (by decide +kernel)
theorem t_15_48 : am_ok lw_Ts cX3_readyOn 5 RX3 48 (o_il 49 3) := so_il (Or.inl ⟨3, rfl, rfl, rfl⟩) (by decide +kernel)
theorem t_15_49 : am_ok lw_Ts cX3_readyOn 5 RX3 49 (o_il 51 4) := so_il (Or.inr ⟨rfl, rfl⟩) (by decide +kernel)
theorem t_15_51 : am_okc gm_mi gm_mt lw_Ts lw_Ns cX3_readyOn RX3 51 68 3 := ⟨54, cf_68.1, cf_68.2.1, cf_68.2.2.1, cf_68.2.2.2, Or.inl ⟨rfl, (by decide +kernel), wt_345, by decide +kernel, (Or.inr ⟨"SeasonOfHours", by decide +kernel⟩)⟩⟩
theorem t_15_54 : am_ok lw_Ts cX3_readyOn 5 RX3 54 (o_is 55 2) := so_is (Or.inl ⟨2, rfl, rfl, rfl⟩) (by decide +kernel)
theorem t_15_55 : am_ok lw_Ts cX3_readyOn 5 RX3 55 (o_ii 58 3 (1)) := so_ii (by decide +kernel)
theorem t_15_58 : am_ok lw_Ts cX3_readyOn 5 RX3 58 (o_go 4) := so_go (off := (-54)) (by decide +kernel) rfl
theorem t_15_61 : am_ok lw_Ts cX3_readyOn 5 RX3 61 (o_il 62 2) := so_il (Or.inl ⟨2, rfl, rfl, rfl⟩) (by decide +kernel)
theorem t_15_62 : am_okr cX3_readyOn 62 1 := (show decode cX3_readyOn 62 = .ok (.ireturn, 1) by decide +kernel)
set_option maxRecDepth 20000 in
theorem ok_15 : am_okL gm_mi gm_mt lw_Ts lw_Ns 15 cd_15 := ⟨t_15_0, t_15_1, t_15_2, t_15_3, t_15_4, t_15_5, t_15_6, t_15_9, t_15_12, t_15_13, t_15_16, t_15_17, t_15_18, t_15_19, t_15_22, t_15_23, t_15_24, t_15_27, t_15_28, t_15_29, t_15_30, t_15_33, t_15_34, t_15_37, t_15_40, t_15_41, t_15_44, t_15_45, t_15_47, t_15_48, t_15_49, t_15_51, t_15_54, t_15_55, t_15_58, t_15_61, t_15_62, trivial⟩
theorem t_16_0 : am_ok lw_Ts cX3_listFollowers 4 RX3 0 (o_k 1 (vI (0))) := so_k (by decide +kernel)
theorem t_16_1 : am_ok lw_Ts cX3_listFollowers 4 RX3 1 (o_is 2 1) := so_is (Or.inl ⟨1, rfl, rfl, rfl⟩) (by decide +kernel)
theorem t_16_2 : am_ok lw_Ts cX3_listFollowers 4 RX3 2 (o_il 3 1) := so_il (Or.inl ⟨1, rfl, rfl, rfl⟩) (by decide +kernel)
theorem t_16_3 : am_ok lw_Ts cX3_listFollowers 4 RX3 3 (o_al 4 0) := so_al (Or.inl ⟨0, rfl, rfl, rfl⟩) (by decide +kernel)
theorem t_16_4 : am_ok lw_Ts cX3_listFollowers 4 RX3 4 (o_gf 7 3 9) := so_gf cl_X3 (by decide) wt_233 (by decide +kernel)
theorem t_16_7 : am_ok lw_Ts cX3_listFollowers 4 RX3 7 (o_ic 84 10 r_ge) := so_ic_ge (off := 77) (by decide +kernel) rfl
theorem t_16_10 : am_ok lw_Ts cX3_listFollowers 4 RX3 10 (o_al 11 0) := so_al (Or.inl ⟨0, rfl, rfl, rfl⟩) (by decide +kernel)
theorem t_16_11 : am_ok lw_Ts cX3_listFollowers 4 RX3 11 (o_gf 14 3 5) := so_gf cl_X3 (by decide) wt_228 (by decide +kernel)
theorem t_16_14 : am_ok lw_Ts cX3_listFollowers 4 RX3 14 (o_il 15 1) := so_il (Or.inl ⟨1, rfl, rfl, rfl⟩) (by decide +kernel)
theorem t_16_15 : am_ok lw_Ts cX3_listFollowers 4 RX3 15 (o_k 16 (vI (0))) := so_k (by decide +kernel)
theorem t_16_16 : am_ok lw_Ts cX3_listFollowers 4 RX3 16 (o_iw 17) := so_iw (by decide +kernel)
theorem t_16_17 : am_ok lw_Ts cX3_listFollowers 4 RX3 17 (o_k 18 (vI (0))) := so_k (by decide +kernel)
theorem t_16_18 : am_ok lw_Ts cX3_listFollowers 4 RX3 18 (o_is 19 2) := so_is (Or.inl ⟨2, rfl, rfl, rfl⟩) (by decide +kernel)
theorem t_16_19 : am_ok lw_Ts cX3_listFollowers 4 RX3 19 (o_il 20 2) := so_il (Or.inl ⟨2, rfl, rfl, rfl⟩) (by decide +kernel)
theorem t_16_20 : am_ok lw_Ts cX3_listFollowers 4 RX3 20 (o_al 21 0) := so_al (Or.inl ⟨0, rfl, rfl, rfl⟩) (by decide +kernel)
theorem t_16_21 : am_ok lw_Ts cX3_listFollowers 4 RX3 21 (o_gf 24 3 9) := so_gf cl_X3 (by decide) wt_233 (by decide +kernel)
theorem t_16_24 : am_ok lw_Ts cX3_listFollowers 4 RX3 24 (o_ic 78 27 r_ge) := so_ic_ge (off := 54) (by decide +kernel) rfl
theorem t_16_27 : am_ok lw_Ts cX3_listFollowers 4 RX3 27 (o_al 28 0) := so_al (Or.inl ⟨0, rfl, rfl, rfl⟩) (by decide +kernel)
theorem t_16_28 : am_ok lw_Ts cX3_listFollowers 4 RX3 28 (o_gf 31 3 0) := so_gf cl_X3 (by decide) wt_222 (by decide +kernel)
theorem t_16_31 : am_ok lw_Ts cX3_listFollowers 4 RX3 31 (o_al 32 0) := so_al (Or.inl ⟨0, rfl, rfl, rfl⟩) (by decide +kernel)
theorem t_16_32 : am_ok lw_Ts cX3_listFollowers 4 RX3 32 (o_gf 35 3 1) := so_gf cl_X3 (by decide) wt_223 (by decide +kernel)
theorem t_16_35 : am_ok lw_Ts cX3_listFollowers 4 RX3 35 (o_il 36 1) := so_il (Or.inl ⟨1, rfl, rfl, rfl⟩) (by decide +kernel)
theorem t_16_36 : am_ok lw_Ts cX3_listFollowers 4 RX3 36 (o_ia 37) := so_ia (by decide +kernel)
theorem t_16_37 : am_ok lw_Ts cX3_listFollowers 4 RX3 37 (o_al 38 0) := so_al (Or.inl ⟨0, rfl, rfl, rfl⟩) (by decide +kernel)
theorem t_16_38 : am_ok lw_Ts cX3_listFollowers 4 RX3 38 (o_gf 41 3 1) := so_gf cl_X3 (by decide) wt_223 (by decide +kernel)
theorem t_16_41 : am_ok lw_Ts cX3_listFollowers 4 RX3 41 (o_il 42 2) := so_il (Or.inl ⟨2, rfl, rfl, rfl⟩) (by decide +kernel)
theorem t_16_42 : am_ok lw_Ts cX3_listFollowers 4 RX3 42 (o_ia 43) := so_ia (by decide +kernel)
theorem t_16_43 : am_okc gm_mi gm_mt lw_Ts lw_Ns cX3_listFollowers RX3 43 11 3 := ⟨88, cf_11.1, cf_11.2.1, cf_11.2.2.1, cf_11.2.2.2, Or.inr ⟨2, 2, TX2, 4, rfl, rfl, rfl, (by decide +kernel), wt_431, wt_432, wt_541, by decide +kernel⟩⟩
theorem t_16_46 : am_ok lw_Ts cX3_listFollowers 4 RX3 46 (o_if 53 49 q_ne) := so_if_ne (off := 7) (by decide +kernel) rfl
theorem t_16_49 : am_ok lw_Ts cX3_listFollowers 4 RX3 49 (o_k 50 (vI (1))) := so_k (by decide +kernel)
theorem t_16_50 : am_ok lw_Ts cX3_listFollowers 4 RX3 50 (o_go 54) := so_go (off := 4) (by decide +kernel) rfl
theorem t_16_53 : am_ok lw_Ts cX3_listFollowers 4 RX3 53 (o_k 54 (vI (0))) := so_k (by decide +kernel)
theorem t_16_54 : am_ok lw_Ts cX3_listFollowers 4 RX3 54 (o_is 55 3) := so_is (Or.inl ⟨3, rfl, rfl, rfl⟩) (by decide +kernel)
theorem t_16_55 : am_ok lw_Ts cX3_listFollowers 4 RX3 55 (o_al 56 0) := so_al (Or.inl ⟨0, rfl, rfl, rfl⟩) (by decide +kernel)
theorem t_16_56 : am_ok lw_Ts cX3_listFollowers 4 RX3 56 (o_gf 59 3 5) := so_gf cl_X3 (by decide) wt_228 (by decide +kernel)
theorem t_16_59 : am_ok lw_Ts cX3_listFollowers 4 RX3 59 (o_il 60 1) := so_il (Or.inl ⟨1, rfl, rfl, rfl⟩) (by decide +kernel)
theorem t_16_60 : am_ok lw_Ts cX3_listFollowers 4 RX3 60 (o_al 61 0) := so_al (Or.inl ⟨0, rfl, rfl, rfl⟩) (by decide +kernel)
theorem t_16_61 : am_ok lw_Ts cX3_listFollowers 4 RX3 61 (o_gf 64 3 5) := so_gf cl_X3 (by decide) wt_228 (by decide +kernel)
theorem t_16_64 : am_ok lw_Ts cX3_listFollowers 4 RX3 64 (o_il 65 1) := so_il (Or.inl ⟨1, rfl, rfl, rfl⟩) (by decide +kernel)
theorem t_16_65 : am_ok lw_Ts cX3_listFollowers 4 RX3 65 (o_ia 66) := so_ia (by decide +kernel)
theorem t_16_66 : am_ok lw_Ts cX3_listFollowers 4 RX3 66 (o_il 67 2) := so_il (Or.inl ⟨2, rfl, rfl, rfl⟩) (by decide +kernel)
theorem t_16_67 : am_ok lw_Ts cX3_listFollowers 4 RX3 67 (o_il 68 3) := so_il (Or.inl ⟨3, rfl, rfl, rfl⟩) (by decide +kernel)
theorem t_16_68 : am_okc gm_mi gm_mt lw_Ts lw_Ns cX3_listFollowers RX3 68 68 3 := ⟨54, cf_68.1, cf_68.2.1, cf_68.2.2.1, cf_68.2.2.2, Or.inl ⟨rfl, (by decide +kernel), wt_345, by decide +kernel, (Or.inr ⟨"SeasonOfHours", by decide +kernel⟩)⟩⟩
theorem t_16_71 : am_ok lw_Ts cX3_listFollowers 4 RX3 71 (o_iw 72) := so_iw (by decide +kernel)
theorem t_16_72 : am_ok lw_Ts cX3_listFollowers 4 RX3 72 (o_ii 75 2 (1)) := so_ii (by decide +kernel)
theorem t_16_75 : am_ok lw_Ts cX3_listFollowers 4 RX3 75 (o_go 19) := so_go (off := (-56)) (by decide +kernel) rfl
theorem t_16_78 : am_ok lw_Ts cX3_listFollowers 4 RX3 78 (o_ii 81 1 (1)) := so_ii (by decide +kernel)
theorem t_16_81 : am_ok lw_Ts cX3_listFollowers 4 RX3 81 (o_go 2) := so_go (off := (-79)) (by decide +kernel) rfl
theorem t_16_84 : am_okr cX3_listFollowers 84 0 := (show decode cX3_listFollowers 84 = .ok (.return_, 1) by decide +kernel)
set_option maxRecDepth 20000 in
theorem ok_16 : am_okL gm_mi gm_mt lw_Ts lw_Ns 16 cd_16 := ⟨t_16_0, t_16_1, t_16_2, t_16_3, t_16_4, t_16_7, t_16_10, t_16_11, t_16_14, t_16_15, t_16_16, t_16_17, t_16_18, t_16_19, t_16_20, t_16_21, t_16_24, t_16_27, t_16_28, t_16_31, t_16_32, t_16_35, t_16_36, t_16_37, t_16_38, t_16_41, t_16_42, t_16_43, t_16_46, t_16_49, t_16_50, t_16_53, t_16_54, t_16_55, t_16_56, t_16_59, t_16_60, t_16_61, t_16_64, t_16_65, t_16_66, t_16_67, t_16_68, t_16_71, t_16_72, t_16_75, t_16_78, t_16_81, t_16_84, trivial⟩
theorem t_17_0 : am_ok lw_Ts cX3_firstsOf 6 RX3 0 (o_k 1 (vI (0))) := so_k (by decide +kernel)
theorem t_17_1 : am_ok lw_Ts cX3_firstsOf 6 RX3 1 (o_is 2 2) := so_is (Or.inl ⟨2, rfl, rfl, rfl⟩) (by decide +kernel)
theorem t_17_2 : am_ok lw_Ts cX3_firstsOf 6 RX3 2 (o_k 3 (vI (0))) := so_k (by decide +kernel)
theorem t_17_3 : am_ok lw_Ts cX3_firstsOf 6 RX3 3 (o_is 4 3) := so_is (Or.inl ⟨3, rfl, rfl, rfl⟩) (by decide +kernel)
theorem t_17_4 : am_ok lw_Ts cX3_firstsOf 6 RX3 4 (o_il 5 3) := so_il (Or.inl ⟨3, rfl, rfl, rfl⟩) (by decide +kernel)
theorem t_17_5 : am_ok lw_Ts cX3_firstsOf 6 RX3 5 (o_al 6 0) := so_al (Or.inl ⟨0, rfl, rfl, rfl⟩) (by decide +kernel)
theorem t_17_6 : am_ok lw_Ts cX3_firstsOf 6 RX3 6 (o_gf 9 3 9) := so_gf cl_X3 (by decide) wt_233 (by decide +kernel)
theorem t_17_9 : am_ok lw_Ts cX3_firstsOf 6 RX3 9 (o_ic 71 12 r_ge) := so_ic_ge (off := 62) (by decide +kernel) rfl
theorem t_17_12 : am_ok lw_Ts cX3_firstsOf 6 RX3 12 (o_il 13 1) := so_il (Or.inl ⟨1, rfl, rfl, rfl⟩) (by decide +kernel)
theorem t_17_13 : am_ok lw_Ts cX3_firstsOf 6 RX3 13 (o_il 14 3) := so_il (Or.inl ⟨3, rfl, rfl, rfl⟩) (by decide +kernel)
theorem t_17_14 : am_okc gm_mi gm_mt lw_Ts lw_Ns cX3_firstsOf RX3 14 67 2 := ⟨93, cf_67.1, cf_67.2.1, cf_67.2.2.1, cf_67.2.2.2, Or.inl ⟨rfl, (by decide +kernel), wt_420, by decide +kernel, (Or.inr ⟨"SeasonOfHours", by decide +kernel⟩)⟩⟩
theorem t_17_17 : am_ok lw_Ts cX3_firstsOf 6 RX3 17 (o_if 65 20 q_eq) := so_if_eq (off := 48) (by decide +kernel) rfl
theorem t_17_20 : am_ok lw_Ts cX3_firstsOf 6 RX3 20 (o_il 21 1) := so_il (Or.inl ⟨1, rfl, rfl, rfl⟩) (by decide +kernel)
theorem t_17_21 : am_ok lw_Ts cX3_firstsOf 6 RX3 21 (o_il 22 3) := so_il (Or.inl ⟨3, rfl, rfl, rfl⟩) (by decide +kernel)
theorem t_17_22 : am_ok lw_Ts cX3_firstsOf 6 RX3 22 (o_k 23 (vI (0))) := so_k (by decide +kernel)
theorem t_17_23 : am_okc gm_mi gm_mt lw_Ts lw_Ns cX3_firstsOf RX3 23 68 3 := ⟨54, cf_68.1, cf_68.2.1, cf_68.2.2.1, cf_68.2.2.2, Or.inl ⟨rfl, (by decide +kernel), wt_345, by decide +kernel, (Or.inr ⟨"SeasonOfHours", by decide +kernel⟩)⟩⟩
theorem t_17_26 : am_ok lw_Ts cX3_firstsOf 6 RX3 26 (o_is 28 4) := so_is (Or.inr ⟨rfl, rfl⟩) (by decide +kernel)
theorem t_17_28 : am_ok lw_Ts cX3_firstsOf 6 RX3 28 (o_il 30 4) := so_il (Or.inr ⟨rfl, rfl⟩) (by decide +kernel)
theorem t_17_30 : am_ok lw_Ts cX3_firstsOf 6 RX3 30 (o_if 50 33 q_eq) := so_if_eq (off := 20) (by decide +kernel) rfl
theorem t_17_33 : am_ok lw_Ts cX3_firstsOf 6 RX3 33 (o_al 34 0) := so_al (Or.inl ⟨0, rfl, rfl, rfl⟩) (by decide +kernel)
theorem t_17_34 : am_ok lw_Ts cX3_firstsOf 6 RX3 34 (o_gf 37 3 7) := so_gf cl_X3 (by decide) wt_231 (by decide +kernel)
theorem t_17_37 : am_ok lw_Ts cX3_firstsOf 6 RX3 37 (o_il 39 4) := so_il (Or.inr ⟨rfl, rfl⟩) (by decide +kernel)
theorem t_17_39 : am_ok lw_Ts cX3_firstsOf 6 RX3 39 (o_ia 40) := so_ia (by decide +kernel)
theorem t_17_40 : am_ok lw_Ts cX3_firstsOf 6 RX3 40 (o_al 41 0) := so_al (Or.inl ⟨0, rfl, rfl, rfl⟩) (by decide +kernel)
theorem t_17_41 : am_ok lw_Ts cX3_firstsOf 6 RX3 41 (o_gf 44 3 5) := so_gf cl_X3 (by decide) wt_228 (by decide +kernel)
theorem t_17_44 : am_ok lw_Ts cX3_firstsOf 6 RX3 44 (o_il 45 3) := so_il (Or.inl ⟨3, rfl, rfl, rfl⟩) (by decide +kernel)
theorem t_17_45 : am_ok lw_Ts cX3_firstsOf 6 RX3 45 (o_ia 46) := so_ia (by decide +kernel)
theorem t_17_46 : am_ok lw_Ts cX3_firstsOf 6 RX3 46 (o_ib 47 f_and) := so_iand (by decide +kernel)
theorem t_17_47 : am_ok lw_Ts cX3_firstsOf 6 RX3 47 (o_if 54 50 q_eq) := so_if_eq (off := 7) (by decide +kernel) rfl
theorem t_17_50 : am_ok lw_Ts cX3_firstsOf 6 RX3 50 (o_k 51 (vI (1))) := so_k (by decide +kernel)
theorem t_17_51 : am_ok lw_Ts cX3_firstsOf 6 RX3 51 (o_go 55) := so_go (off := 4) (by decide +kernel) rfl
theorem t_17_54 : am_ok lw_Ts cX3_firstsOf 6 RX3 54 (o_k 55 (vI (0))) := so_k (by decide +kernel)
theorem t_17_55 : am_ok lw_Ts cX3_firstsOf 6 RX3 55 (o_is 57 5) := so_is (Or.inr ⟨rfl, rfl⟩) (by decide +kernel)
theorem t_17_57 : am_ok lw_Ts cX3_firstsOf 6 RX3 57 (o_il 58 2) := so_il (Or.inl ⟨2, rfl, rfl, rfl⟩) (by decide +kernel)
theorem t_17_58 : am_ok lw_Ts cX3_firstsOf 6 RX3 58 (o_il 59 3) := so_il (Or.inl ⟨3, rfl, rfl, rfl⟩) (by decide +kernel)
theorem t_17_59 : am_ok lw_Ts cX3_firstsOf 6 RX3 59 (o_il 61 5) := so_il (Or.inr ⟨rfl, rfl⟩) (by decide +kernel)
theorem t_17_61 : am_okc gm_mi gm_mt lw_Ts lw_Ns cX3_firstsOf RX3 61 68 3 := ⟨54, cf_68.1, cf_68.2.1, cf_68.2.2.1, cf_68.2.2.2, Or.inl ⟨rfl, (by decide +kernel), wt_345, by decide +kernel, (Or.inr ⟨"SeasonOfHours", by decide +kernel⟩)⟩⟩
theorem t_17_64 : am_ok lw_Ts cX3_firstsOf 6 RX3 64 (o_is 65 2) := so_is (Or.inl ⟨2, rfl, rfl, rfl⟩) (by decide +kernel)
theorem t_17_65 : am_ok lw_Ts cX3_firstsOf 6 RX3 65 (o_ii 68 3 (1)) := so_ii (by decide +kernel)
theorem t_17_68 : am_ok lw_Ts cX3_firstsOf 6 RX3 68 (o_go 4) := so_go (off := (-64)) (by decide +kernel) rfl
theorem t_17_71 : am_ok lw_Ts cX3_firstsOf 6 RX3 71 (o_il 72 2) := so_il (Or.inl ⟨2, rfl, rfl, rfl⟩) (by decide +kernel)
theorem t_17_72 : am_okr cX3_firstsOf 72 1 := (show decode cX3_firstsOf 72 = .ok (.ireturn, 1) by decide +kernel)
set_option maxRecDepth 20000 in
theorem ok_17 : am_okL gm_mi gm_mt lw_Ts lw_Ns 17 cd_17 := ⟨t_17_0, t_17_1, t_17_2, t_17_3, t_17_4, t_17_5, t_17_6, t_17_9, t_17_12, t_17_13, t_17_14, t_17_17, t_17_20, t_17_21, t_17_22, t_17_23, t_17_26, t_17_28, t_17_30, t_17_33, t_17_34, t_17_37, t_17_39, t_17_40, t_17_41, t_17_44, t_17_45, t_17_46, t_17_47, t_17_50, t_17_51, t_17_54, t_17_55, t_17_57, t_17_58, t_17_59, t_17_61, t_17_64, t_17_65, t_17_68, t_17_71, t_17_72, trivial⟩
theorem t_18_0 : am_ok lw_Ts cX3_isGood 3 RX3 0 (o_al 1 0) := so_al (Or.inl ⟨0, rfl, rfl, rfl⟩) (by decide +kernel)
theorem t_18_1 : am_ok lw_Ts cX3_isGood 3 RX3 1 (o_gf 4 3 7) := so_gf cl_X3 (by decide) wt_231 (by decide +kernel)
theorem t_18_4 : am_ok lw_Ts cX3_isGood 3 RX3 4 (o_il 5 1) := so_il (Or.inl ⟨1, rfl, rfl, rfl⟩) (by decide +kernel)
theorem t_18_5 : am_ok lw_Ts cX3_isGood 3 RX3 5 (o_ia 6) := so_ia (by decide +kernel)
theorem t_18_6 : am_ok lw_Ts cX3_isGood 3 RX3 6 (o_if 39 9 q_eq) := so_if_eq (off := 33) (by decide +kernel) rfl
theorem t_18_9 : am_ok lw_Ts cX3_isGood 3 RX3 9 (o_il 10 1) := so_il (Or.inl ⟨1, rfl, rfl, rfl⟩) (by decide +kernel)
theorem t_18_10 : am_ok lw_Ts cX3_isGood 3 RX3 10 (o_al 11 0) := so_al (Or.inl ⟨0, rfl, rfl, rfl⟩) (by decide +kernel)
theorem t_18_11 : am_ok lw_Ts cX3_isGood 3 RX3 11 (o_gf 14 3 8) := so_gf cl_X3 (by decide) wt_232 (by decide +kernel)
theorem t_18_14 : am_ok lw_Ts cX3_isGood 3 RX3 14 (o_ib 15 f_and) := so_iand (by decide +kernel)
theorem t_18_15 : am_okc gm_mi gm_mt lw_Ts lw_Ns cX3_isGood RX3 15 112 1 := ⟨96, cf_112.1, cf_112.2.1, cf_112.2.2.1, cf_112.2.2.2, Or.inl ⟨rfl, (by decide +kernel), wt_369, by decide +kernel, (Or.inl wt_551)⟩⟩
theorem t_18_18 : am_ok lw_Ts cX3_isGood 3 RX3 18 (o_k 19 (vI (1))) := so_k (by decide +kernel)
theorem t_18_19 : am_ok lw_Ts cX3_isGood 3 RX3 19 (o_ic 39 22 r_ne) := so_ic_ne (off := 20) (by decide +kernel) rfl
theorem t_18_22 : am_ok lw_Ts cX3_isGood 3 RX3 22 (o_al 23 0) := so_al (Or.inl ⟨0, rfl, rfl, rfl⟩) (by decide +kernel)
theorem t_18_23 : am_ok lw_Ts cX3_isGood 3 RX3 23 (o_al 24 0) := so_al (Or.inl ⟨0, rfl, rfl, rfl⟩) (by decide +kernel)
theorem t_18_24 : am_ok lw_Ts cX3_isGood 3 RX3 24 (o_gf 27 3 2) := so_gf cl_X3 (by decide) wt_224 (by decide +kernel)
theorem t_18_27 : am_ok lw_Ts cX3_isGood 3 RX3 27 (o_il 28 1) := so_il (Or.inl ⟨1, rfl, rfl, rfl⟩) (by decide +kernel)
theorem t_18_28 : am_okc gm_mi gm_mt lw_Ts lw_Ns cX3_isGood RX3 28 20 3 := ⟨79, cf_20.1, cf_20.2.1, cf_20.2.2.1, cf_20.2.2.2, Or.inr ⟨3, 2, TX3, 12, rfl, rfl, rfl, (by decide +kernel), wt_554, wt_17, wt_552, by decide +kernel⟩⟩
theorem t_18_31 : am_ok lw_Ts cX3_isGood 3 RX3 31 (o_il 32 2) := so_il (Or.inl ⟨2, rfl, rfl, rfl⟩) (by decide +kernel)
theorem t_18_32 : am_ok lw_Ts cX3_isGood 3 RX3 32 (o_ic 39 35 r_gt) := so_ic_gt (off := 7) (by decide +kernel) rfl
theorem t_18_35 : am_ok lw_Ts cX3_isGood 3 RX3 35 (o_k 36 (vI (1))) := so_k (by decide +kernel)
theorem t_18_36 : am_ok lw_Ts cX3_isGood 3 RX3 36 (o_go 40) := so_go (off := 4) (by decide +kernel) rfl
theorem t_18_39 : am_ok lw_Ts cX3_isGood 3 RX3 39 (o_k 40 (vI (0))) := so_k (by decide +kernel)
theorem t_18_40 : am_okr cX3_isGood 40 2 := (show decode cX3_isGood 40 = .ok (.ireturn, 1) by decide +kernel)
set_option maxRecDepth 20000 in
theorem ok_18 : am_okL gm_mi gm_mt lw_Ts lw_Ns 18 cd_18 := ⟨t_18_0, t_18_1, t_18_4, t_18_5, t_18_6, t_18_9, t_18_10, t_18_11, t_18_14, t_18_15, t_18_18, t_18_19, t_18_22, t_18_23, t_18_24, t_18_27, t_18_28, t_18_31, t_18_32, t_18_35, t_18_36, t_18_39, t_18_40, trivial⟩
theorem t_19_0 : am_ok lw_Ts cX3_isBetter 5 RX3 0 (o_il 1 2) := so_il (Or.inl ⟨2, rfl, rfl, rfl⟩) (by decide +kernel)
theorem t_19_1 : am_ok lw_Ts cX3_isBetter 5 RX3 1 (o_if 6 4 q_ne) := so_if_ne (off := 5) (by decide +kernel) rfl
theorem t_19_4 : am_ok lw_Ts cX3_isBetter 5 RX3 4 (o_k 5 (vI (1))) := so_k (by decide +kernel)
theorem t_19_5 : am_okr cX3_isBetter 5 2 := (show decode cX3_isBetter 5 = .ok (.ireturn, 1) by decide +kernel)
theorem t_19_6 : am_ok lw_Ts cX3_isBetter 5 RX3 6 (o_al 7 0) := so_al (Or.inl ⟨0, rfl, rfl, rfl⟩) (by decide +kernel)
theorem t_19_7 : am_ok lw_Ts cX3_isBetter 5 RX3 7 (o_al 8 0) := so_al (Or.inl ⟨0, rfl, rfl, rfl⟩) (by decide +kernel)
theorem t_19_8 : am_ok lw_Ts cX3_isBetter 5 RX3 8 (o_gf 11 3 3) := so_gf cl_X3 (by decide) wt_225 (by decide +kernel)
theorem t_19_11 : am_ok lw_Ts cX3_isBetter 5 RX3 11 (o_il 12 1) := so_il (Or.inl ⟨1, rfl, rfl, rfl⟩) (by decide +kernel)
theorem t_19_12 : am_okc gm_mi gm_mt lw_Ts lw_Ns cX3_isBetter RX3 12 20 3 := ⟨79, cf_20.1, cf_20.2.1, cf_20.2.2.1, cf_20.2.2.2, Or.inr ⟨3, 2, TX3, 12, rfl, rfl, rfl, (by decide +kernel), wt_554, wt_17, wt_552, by decide +kernel⟩⟩
theorem t_19_15 : am_ok lw_Ts cX3_isBetter 5 RX3 15 (o_al 16 0) := so_al (Or.inl ⟨0, rfl, rfl, rfl⟩) (by decide +kernel)
theorem t_19_16 : am_ok lw_Ts cX3_isBetter 5 RX3 16 (o_al 17 0) := so_al (Or.inl ⟨0, rfl, rfl, rfl⟩) (by decide +kernel)
theorem t_19_17 : am_ok lw_Ts cX3_isBetter 5 RX3 17 (o_gf 20 3 3) := so_gf cl_X3 (by decide) wt_225 (by decide +kernel)
theorem t_19_20 : am_ok lw_Ts cX3_isBetter 5 RX3 20 (o_il 21 2) := so_il (Or.inl ⟨2, rfl, rfl, rfl⟩) (by decide +kernel)
theorem t_19_21 : am_okc gm_mi gm_mt lw_Ts lw_Ns cX3_isBetter RX3 21 20 3 := ⟨79, cf_20.1, cf_20.2.1, cf_20.2.2.1, cf_20.2.2.2, Or.inr ⟨3, 2, TX3, 12, rfl, rfl, rfl, (by decide +kernel), wt_554, wt_17, wt_552, by decide +kernel⟩⟩
theorem t_19_24 : am_ok lw_Ts cX3_isBetter 5 RX3 24 (o_ib 25 f_sub) := so_isub (by decide +kernel)
theorem t_19_25 : am_ok lw_Ts cX3_isBetter 5 RX3 25 (o_is 26 3) := so_is (Or.inl ⟨3, rfl, rfl, rfl⟩) (by decide +kernel)
theorem t_19_26 : am_ok lw_Ts cX3_isBetter 5 RX3 26 (o_il 27 3) := so_il (Or.inl ⟨3, rfl, rfl, rfl⟩) (by decide +kernel)
theorem t_19_27 : am_ok lw_Ts cX3_isBetter 5 RX3 27 (o_if 40 30 q_eq) := so_if_eq (off := 13) (by decide +kernel) rfl
theorem t_19_30 : am_ok lw_Ts cX3_isBetter 5 RX3 30 (o_il 31 3) := so_il (Or.inl ⟨3, rfl, rfl, rfl⟩) (by decide +kernel)
theorem t_19_31 : am_ok lw_Ts cX3_isBetter 5 RX3 31 (o_if 38 34 q_le) := so_if_le (off := 7) (by decide +kernel) rfl
theorem t_19_34 : am_ok lw_Ts cX3_isBetter 5 RX3 34 (o_k 35 (vI (1))) := so_k (by decide +kernel)
theorem t_19_35 : am_ok lw_Ts cX3_isBetter 5 RX3 35 (o_go 39) := so_go (off := 4) (by decide +kernel) rfl
theorem t_19_38 : am_ok lw_Ts cX3_isBetter 5 RX3 38 (o_k 39 (vI (0))) := so_k (by decide +kernel)
theorem t_19_39 : am_okr cX3_isBetter 39 2 := (show decode cX3_isBetter 39 = .ok (.ireturn, 1) by decide +kernel)
theorem t_19_40 : am_ok lw_Ts cX3_isBetter 5 RX3 40 (o_il 41 2) := so_il (Or.inl ⟨2, rfl, rfl, rfl⟩) (by decide +kernel)
theorem t_19_41 : am_okc gm_mi gm_mt lw_Ts lw_Ns cX3_isBetter RX3 41 112 1 := ⟨96, cf_112.1, cf_112.2.1, cf_112.2.2.1, cf_112.2.2.2, Or.inl ⟨rfl, (by decide +kernel), wt_369, by decide +kernel, (Or.inl wt_551)⟩⟩
theorem t_19_44 : am_ok lw_Ts cX3_isBetter 5 RX3 44 (o_il 45 1) := so_il (Or.inl ⟨1, rfl, rfl, rfl⟩) (by decide +kernel)
theorem t_19_45 : am_okc gm_mi gm_mt lw_Ts lw_Ns cX3_isBetter RX3 45 112 1 := ⟨96, cf_112.1, cf_112.2.1, cf_112.2.2.1, cf_112.2.2.2, Or.inl ⟨rfl, (by decide +kernel), wt_369, by decide +kernel, (Or.inl wt_551)⟩⟩
theorem t_19_48 : am_ok lw_Ts cX3_isBetter 5 RX3 48 (o_ib 49 f_sub) := so_isub (by decide +kernel)
theorem t_19_49 : am_ok lw_Ts cX3_isBetter 5 RX3 49 (o_is 51 4) := so_is (Or.inr ⟨rfl, rfl⟩) (by decide +kernel)
theorem t_19_51 : am_ok lw_Ts cX3_isBetter 5 RX3 51 (o_il 53 4) := so_il (Or.inr ⟨rfl, rfl⟩) (by decide +kernel)
theorem t_19_53 : am_ok lw_Ts cX3_isBetter 5 RX3 53 (o_if 67 56 q_eq) := so_if_eq (off := 14) (by decide +kernel) rfl
theorem t_19_56 : am_ok lw_Ts cX3_isBetter 5 RX3 56 (o_il 58 4) := so_il (Or.inr ⟨rfl, rfl⟩) (by decide +kernel)
theorem t_19_58 : am_ok lw_Ts cX3_isBetter 5 RX3 58 (o_if 65 61 q_le) := so_if_le (off := 7) (by decide +kernel) rfl
theorem t_19_61 : am_ok lw_Ts cX3_isBetter 5 RX3 61 (o_k 62 (vI (1))) := so_k (by decide +kernel)
theorem t_19_62 : am_ok lw_Ts cX3_isBetter 5 RX3 62 (o_go 66) := so_go (off := 4) (by decide +kernel) rfl
theorem t_19_65 : am_ok lw_Ts cX3_isBetter 5 RX3 65 (o_k 66 (vI (0))) := so_k (by decide +kernel)
theorem t_19_66 : am_okr cX3_isBetter 66 2 := (show decode cX3_isBetter 66 = .ok (.ireturn, 1) by decide +kernel)
theorem t_19_67 : am_ok lw_Ts cX3_isBetter 5 RX3 67 (o_al 68 0) := so_al (Or.inl ⟨0, rfl, rfl, rfl⟩) (by decide +kernel)
theorem t_19_68 : am_ok lw_Ts cX3_isBetter 5 RX3 68 (o_il 69 1) := so_il (Or.inl ⟨1, rfl, rfl, rfl⟩) (by decide +kernel)
theorem t_19_69 : am_okc gm_mi gm_mt lw_Ts lw_Ns cX3_isBetter RX3 69 21 2 := ⟨101, cf_21.1, cf_21.2.1, cf_21.2.2.1, cf_21.2.2.2, Or.inr ⟨3, 1, TX3, 12, rfl, rfl, rfl, (by decide +kernel), wt_562, wt_19, wt_560, by decide +kernel⟩⟩
theorem t_19_72 : am_ok lw_Ts cX3_isBetter 5 RX3 72 (o_al 73 0) := so_al (Or.inl ⟨0, rfl, rfl, rfl⟩) (by decide +kernel)
theorem t_19_73 : am_ok lw_Ts cX3_isBetter 5 RX3 73 (o_il 74 2) := so_il (Or.inl ⟨2, rfl, rfl, rfl⟩) (by decide +kernel)
theorem t_19_74 : am_okc gm_mi gm_mt lw_Ts lw_Ns cX3_isBetter RX3 74 21 2 := ⟨101, cf_21.1, cf_21.2.1, cf_21.2.2.1, cf_21.2.2.2, Or.inr ⟨3, 1, TX3, 12, rfl, rfl, rfl, (by decide +kernel), wt_562, wt_19, wt_560, by decide +kernel⟩⟩
theorem t_19_77 : am_ok lw_Ts cX3_isBetter 5 RX3 77 (o_lcmp 78) := so_lcmp (by decide +kernel)
theorem t_19_78 : am_ok lw_Ts cX3_isBetter 5 RX3 78 (o_if 85 81 q_ge) := so_if_ge (off := 7) (by decide +kernel) rfl
theorem t_19_81 : am_ok lw_Ts cX3_isBetter 5 RX3 81 (o_k 82 (vI (1))) := so_k (by decide +kernel)
theorem t_19_82 : am_ok lw_Ts cX3_isBetter 5 RX3 82 (o_go 86) := so_go (off := 4) (by decide +kernel) rfl
theorem t_19_85 : am_ok lw_Ts cX3_isBetter 5 RX3 85 (o_k 86 (vI (0))) := so_k (by decide +kernel)
theorem t_19_86 : am_okr cX3_isBetter 86 2 := (show decode cX3_isBetter 86 = .ok (.ireturn, 1) by decide +kernel)
set_option maxRecDepth 20000 in
theorem ok_19 : am_okL gm_mi gm_mt lw_Ts lw_Ns 19 cd_19 := ⟨t_19_0, t_19_1, t_19_4, t_19_5, t_19_6, t_19_7, t_19_8, t_19_11, t_19_12, t_19_15, t_19_16, t_19_17, t_19_20, t_19_21, t_19_24, t_19_25, t_19_26, t_19_27, t_19_30, t_19_31, t_19_34, t_19_35, t_19_38, t_19_39, t_19_40, t_19_41, t_19_44, t_19_45, t_19_48, t_19_49, t_19_51, t_19_53, t_19_56, t_19_58, t_19_61, t_19_62, t_19_65, t_19_66, t_19_67, t_19_68, t_19_69, t_19_72, t_19_73, t_19_74, t_19_77, t_19_78, t_19_81, t_19_82, t_19_85, t_19_86, trivial⟩
theorem t_20_0 : am_ok lw_Ts cX3_sum 5 RX3 0 (o_k 1 (vI (0))) := so_k (by decide +kernel)
theorem t_20_1 : am_ok lw_Ts cX3_sum 5 RX3 1 (o_is 2 3) := so_is (Or.inl ⟨3, rfl, rfl, rfl⟩) (by decide +kernel)
theorem t_20_2 : am_ok lw_Ts cX3_sum 5 RX3 2 (o_k 3 (vI (0))) := so_k (by decide +kernel)
theorem t_20_3 : am_ok lw_Ts cX3_sum 5 RX3 3 (o_is 5 4) := so_is (Or.inr ⟨rfl, rfl⟩) (by decide +kernel)
theorem t_20_5 : am_ok lw_Ts cX3_sum 5 RX3 5 (o_il 7 4) := so_il (Or.inr ⟨rfl, rfl⟩) (by decide +kernel)
theorem t_20_7 : am_ok lw_Ts cX3_sum 5 RX3 7 (o_al 8 0) := so_al (Or.inl ⟨0, rfl, rfl, rfl⟩) (by decide +kernel)
theorem t_20_8 : am_ok lw_Ts cX3_sum 5 RX3 8 (o_gf 11 3 9) := so_gf cl_X3 (by decide) wt_233 (by decide +kernel)
theorem t_20_11 : am_ok lw_Ts cX3_sum 5 RX3 11 (o_ic 36 14 r_ge) := so_ic_ge (off := 25) (by decide +kernel) rfl
theorem t_20_14 : am_ok lw_Ts cX3_sum 5 RX3 14 (o_il 15 2) := so_il (Or.inl ⟨2, rfl, rfl, rfl⟩) (by decide +kernel)
theorem t_20_15 : am_ok lw_Ts cX3_sum 5 RX3 15 (o_il 17 4) := so_il (Or.inr ⟨rfl, rfl⟩) (by decide +kernel)
theorem t_20_17 : am_okc gm_mi gm_mt lw_Ts lw_Ns cX3_sum RX3 17 67 2 := ⟨93, cf_67.1, cf_67.2.1, cf_67.2.2.1, cf_67.2.2.2, Or.inl ⟨rfl, (by decide +kernel), wt_420, by decide +kernel, (Or.inr ⟨"SeasonOfHours", by decide +kernel⟩)⟩⟩
theorem t_20_20 : am_ok lw_Ts cX3_sum 5 RX3 20 (o_if 30 23 q_eq) := so_if_eq (off := 10) (by decide +kernel) rfl
theorem t_20_23 : am_ok lw_Ts cX3_sum 5 RX3 23 (o_il 24 3) := so_il (Or.inl ⟨3, rfl, rfl, rfl⟩) (by decide +kernel)
theorem t_20_24 : am_ok lw_Ts cX3_sum 5 RX3 24 (o_al 25 1) := so_al (Or.inl ⟨1, rfl, rfl, rfl⟩) (by decide +kernel)
theorem t_20_25 : am_ok lw_Ts cX3_sum 5 RX3 25 (o_il 27 4) := so_il (Or.inr ⟨rfl, rfl⟩) (by decide +kernel)
theorem t_20_27 : am_ok lw_Ts cX3_sum 5 RX3 27 (o_ia 28) := so_ia (by decide +kernel)
theorem t_20_28 : am_ok lw_Ts cX3_sum 5 RX3 28 (o_ib 29 f_add) := so_iadd (by decide +kernel)
theorem t_20_29 : am_ok lw_Ts cX3_sum 5 RX3 29 (o_is 30 3) := so_is (Or.inl ⟨3, rfl, rfl, rfl⟩) (by decide +kernel)
theorem t_20_30 : am_ok lw_Ts cX3_sum 5 RX3 30 (o_ii 33 4 (1)) := so_ii (by decide +kernel)
theorem t_20_33 : am_ok lw_Ts cX3_sum 5 RX3 33 (o_go 5) := so_go (off := (-28)) (by decide +kernel) rfl
theorem t_20_36 : am_ok lw_Ts cX3_sum 5 RX3 36 (o_il 37 3) := so_il (Or.inl ⟨3, rfl, rfl, rfl⟩) (by decide +kernel)
theorem t_20_37 : am_okr cX3_sum 37 1 := (show decode cX3_sum 37 = .ok (.ireturn, 1) by decide +kernel)
set_option maxRecDepth 20000 in
theorem ok_20 : am_okL gm_mi gm_mt lw_Ts lw_Ns 20 cd_20 := ⟨t_20_0, t_20_1, t_20_2, t_20_3, t_20_5, t_20_7, t_20_8, t_20_11, t_20_14, t_20_15, t_20_17, t_20_20, t_20_23, t_20_24, t_20_25, t_20_27, t_20_28, t_20_29, t_20_30, t_20_33, t_20_36, t_20_37, trivial⟩
theorem t_21_0 : am_ok lw_Ts cX3_firstRow 8 RX3 0 (o_k 1 (vL (0))) := so_lk (n := 0) rfl (by decide +kernel)
theorem t_21_1 : am_ok lw_Ts cX3_firstRow 8 RX3 1 (o_ls 2 2) := so_ls (Or.inl ⟨2, rfl, rfl, rfl⟩) (by decide +kernel)
theorem t_21_2 : am_ok lw_Ts cX3_firstRow 8 RX3 2 (o_il 3 1) := so_il (Or.inl ⟨1, rfl, rfl, rfl⟩) (by decide +kernel)
theorem t_21_3 : am_ok lw_Ts cX3_firstRow 8 RX3 3 (o_is 5 4) := so_is (Or.inr ⟨rfl, rfl⟩) (by decide +kernel)
theorem t_21_5 : am_ok lw_Ts cX3_firstRow 8 RX3 5 (o_al 6 0) := so_al (Or.inl ⟨0, rfl, rfl, rfl⟩) (by decide +kernel)
theorem t_21_6 : am_ok lw_Ts cX3_firstRow 8 RX3 6 (o_gf 9 3 7) := so_gf cl_X3 (by decide) wt_231 (by decide +kernel)
theorem t_21_9 : am_ok lw_Ts cX3_firstRow 8 RX3 9 (o_il 10 1) := so_il (Or.inl ⟨1, rfl, rfl, rfl⟩) (by decide +kernel)
theorem t_21_10 : am_ok lw_Ts cX3_firstRow 8 RX3 10 (o_ia 11) := so_ia (by decide +kernel)
theorem t_21_11 : am_ok lw_Ts cX3_firstRow 8 RX3 11 (o_is 13 5) := so_is (Or.inr ⟨rfl, rfl⟩) (by decide +kernel)
theorem t_21_13 : am_ok lw_Ts cX3_firstRow 8 RX3 13 (o_k 14 (vI (0))) := so_k (by decide +kernel)
theorem t_21_14 : am_ok lw_Ts cX3_firstRow 8 RX3 14 (o_is 16 6) := so_is (Or.inr ⟨rfl, rfl⟩) (by decide +kernel)
theorem t_21_16 : am_ok lw_Ts cX3_firstRow 8 RX3 16 (o_il 18 6) := so_il (Or.inr ⟨rfl, rfl⟩) (by decide +kernel)
theorem t_21_18 : am_ok lw_Ts cX3_firstRow 8 RX3 18 (o_al 19 0) := so_al (Or.inl ⟨0, rfl, rfl, rfl⟩) (by decide +kernel)
theorem t_21_19 : am_ok lw_Ts cX3_firstRow 8 RX3 19 (o_gf 22 3 9) := so_gf cl_X3 (by decide) wt_233 (by decide +kernel)
theorem t_21_22 : am_ok lw_Ts cX3_firstRow 8 RX3 22 (o_ic 80 25 r_ge) := so_ic_ge (off := 58) (by decide +kernel) rfl
theorem t_21_25 : am_ok lw_Ts cX3_firstRow 8 RX3 25 (o_il 27 5) := so_il (Or.inr ⟨rfl, rfl⟩) (by decide +kernel)
theorem t_21_27 : am_ok lw_Ts cX3_firstRow 8 RX3 27 (o_if 80 30 q_eq) := so_if_eq (off := 53) (by decide +kernel) rfl
theorem t_21_30 : am_ok lw_Ts cX3_firstRow 8 RX3 30 (o_il 32 5) := so_il (Or.inr ⟨rfl, rfl⟩) (by decide +kernel)
theorem t_21_32 : am_okc gm_mi gm_mt lw_Ts lw_Ns cX3_firstRow RX3 32 111 1 := ⟨105, cf_111.1, cf_111.2.1, cf_111.2.2.1, cf_111.2.2.2, Or.inl ⟨rfl, (by decide +kernel), wt_565, by decide +kernel, (Or.inl wt_564)⟩⟩
theorem t_21_35 : am_ok lw_Ts cX3_firstRow 8 RX3 35 (o_is 37 7) := so_is (Or.inr ⟨rfl, rfl⟩) (by decide +kernel)
theorem t_21_37 : am_ok lw_Ts cX3_firstRow 8 RX3 37 (o_ll 38 2) := so_ll (Or.inl ⟨2, rfl, rfl, rfl⟩) (by decide +kernel)
theorem t_21_38 : am_ok lw_Ts cX3_firstRow 8 RX3 38 (o_k 41 (vL (10))) := so_ldc2 wt_568 (by decide +kernel)
theorem t_21_41 : am_ok lw_Ts cX3_firstRow 8 RX3 41 (o_lb 42 f_mul) := so_lmul (by decide +kernel)
theorem t_21_42 : am_ok lw_Ts cX3_firstRow 8 RX3 42 (o_il 44 7) := so_il (Or.inr ⟨rfl, rfl⟩) (by decide +kernel)
theorem t_21_44 : am_ok lw_Ts cX3_firstRow 8 RX3 44 (o_i2l 45) := so_i2l (by decide +kernel)
theorem t_21_45 : am_ok lw_Ts cX3_firstRow 8 RX3 45 (o_lb 46 f_add) := so_ladd (by decide +kernel)
theorem t_21_46 : am_ok lw_Ts cX3_firstRow 8 RX3 46 (o_ls 47 2) := so_ls (Or.inl ⟨2, rfl, rfl, rfl⟩) (by decide +kernel)
theorem t_21_47 : am_ok lw_Ts cX3_firstRow 8 RX3 47 (o_il 49 4) := so_il (Or.inr ⟨rfl, rfl⟩) (by decide +kernel)
theorem t_21_49 : am_ok lw_Ts cX3_firstRow 8 RX3 49 (o_il 51 7) := so_il (Or.inr ⟨rfl, rfl⟩) (by decide +kernel)
theorem t_21_51 : am_ok lw_Ts cX3_firstRow 8 RX3 51 (o_k 52 (vI (0))) := so_k (by decide +kernel)
theorem t_21_52 : am_okc gm_mi gm_mt lw_Ts lw_Ns cX3_firstRow RX3 52 68 3 := ⟨54, cf_68.1, cf_68.2.1, cf_68.2.2.1, cf_68.2.2.2, Or.inl ⟨rfl, (by decide +kernel), wt_345, by decide +kernel, (Or.inr ⟨"SeasonOfHours", by decide +kernel⟩)⟩⟩
theorem t_21_55 : am_ok lw_Ts cX3_firstRow 8 RX3 55 (o_is 57 4) := so_is (Or.inr ⟨rfl, rfl⟩) (by decide +kernel)
theorem t_21_57 : am_ok lw_Ts cX3_firstRow 8 RX3 57 (o_al 58 0) := so_al (Or.inl ⟨0, rfl, rfl, rfl⟩) (by decide +kernel)
theorem t_21_58 : am_ok lw_Ts cX3_firstRow 8 RX3 58 (o_gf 61 3 7) := so_gf cl_X3 (by decide) wt_231 (by decide +kernel)
theorem t_21_61 : am_ok lw_Ts cX3_firstRow 8 RX3 61 (o_il 63 4) := so_il (Or.inr ⟨rfl, rfl⟩) (by decide +kernel)
theorem t_21_63 : am_ok lw_Ts cX3_firstRow 8 RX3 63 (o_ia 64) := so_ia (by decide +kernel)
theorem t_21_64 : am_ok lw_Ts cX3_firstRow 8 RX3 64 (o_al 65 0) := so_al (Or.inl ⟨0, rfl, rfl, rfl⟩) (by decide +kernel)
theorem t_21_65 : am_ok lw_Ts cX3_firstRow 8 RX3 65 (o_gf 68 3 5) := so_gf cl_X3 (by decide) wt_228 (by decide +kernel)
theorem t_21_68 : am_ok lw_Ts cX3_firstRow 8 RX3 68 (o_il 70 7) := so_il (Or.inr ⟨rfl, rfl⟩) (by decide +kernel)
theorem t_21_70 : am_ok lw_Ts cX3_firstRow 8 RX3 70 (o_ia 71) := so_ia (by decide +kernel)
theorem t_21_71 : am_ok lw_Ts cX3_firstRow 8 RX3 71 (o_ib 72 f_and) := so_iand (by decide +kernel)
theorem t_21_72 : am_ok lw_Ts cX3_firstRow 8 RX3 72 (o_is 74 5) := so_is (Or.inr ⟨rfl, rfl⟩) (by decide +kernel)
theorem t_21_74 : am_ok lw_Ts cX3_firstRow 8 RX3 74 (o_ii 77 6 (1)) := so_ii (by decide +kernel)
theorem t_21_77 : am_ok lw_Ts cX3_firstRow 8 RX3 77 (o_go 16) := so_go (off := (-61)) (by decide +kernel) rfl
theorem t_21_80 : am_ok lw_Ts cX3_firstRow 8 RX3 80 (o_ll 81 2) := so_ll (Or.inl ⟨2, rfl, rfl, rfl⟩) (by decide +kernel)
theorem t_21_81 : am_okr cX3_firstRow 81 3 := (show decode cX3_firstRow 81 = .ok (.lreturn, 1) by decide +kernel)
set_option maxRecDepth 20000 in
theorem ok_21 : am_okL gm_mi gm_mt lw_Ts lw_Ns 21 cd_21 := ⟨t_21_0, t_21_1, t_21_2, t_21_3, t_21_5, t_21_6, t_21_9, t_21_10, t_21_11, t_21_13, t_21_14, t_21_16, t_21_18, t_21_19, t_21_22, t_21_25, t_21_27, t_21_30, t_21_32, t_21_35, t_21_37, t_21_38, t_21_41, t_21_42, t_21_44, t_21_45, t_21_46, t_21_47, t_21_49, t_21_51, t_21_52, t_21_55, t_21_57, t_21_58, t_21_61, t_21_63, t_21_64, t_21_65, t_21_68, t_21_70, t_21_71, t_21_72, t_21_74, t_21_77, t_21_80, t_21_81, trivial⟩
