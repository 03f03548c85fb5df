theorem t_40_0 : am_ok lw_Ts cX5_isFault 5 RX5 0 (o_al 1 0) := so_al (Or.inl ⟨0, rfl, rfl, rfl⟩) (by decide +kernel)
theorem t_40_1 : am_ok lw_Ts cX5_isFault 5 RX5 1 (o_il 2 2) := so_il (Or.inl ⟨2, rfl, rfl, rfl⟩) (by decide +kernel)
theorem t_40_2 : am_okc gm_mi gm_mt lw_Ts lw_Ns cX5_isFault RX5 2 35 2 := ⟨60, cf_35.1, cf_35.2.1, cf_35.2.2.1, cf_35.2.2.2, Or.inr ⟨5, 1, TX5, 7, rfl, rfl, rfl, (by decide +kernel), wt_391, wt_392, wt_390, by decide +kernel⟩⟩
theorem t_40_5 : am_ok lw_Ts cX5_isFault 5 RX5 5 (o_is 6 3) := so_is (Or.inl ⟨3, rfl, rfl, rfl⟩) (by decide +kernel)
theorem t_40_6 : am_ok lw_Ts cX5_isFault 5 RX5 6 (o_al 7 0) := so_al (Or.inl ⟨0, rfl, rfl, rfl⟩) (by decide +kernel)
theorem t_40_7 : am_ok lw_Ts cX5_isFault 5 RX5 7 (o_il 8 2) := so_il (Or.inl ⟨2, rfl, rfl, rfl⟩) (by decide +kernel)
theorem t_40_8 : am_okc gm_mi gm_mt lw_Ts lw_Ns cX5_isFault RX5 8 36 2 := ⟨64, cf_36.1, cf_36.2.1, cf_36.2.2.1, cf_36.2.2.2, Or.inr ⟨5, 1, TX5, 7, rfl, rfl, rfl, (by decide +kernel), wt_395, wt_396, wt_394, by decide +kernel⟩⟩
theorem t_40_11 : am_ok lw_Ts cX5_isFault 5 RX5 11 (o_is 13 4) := so_is (Or.inr ⟨rfl, rfl⟩) (by decide +kernel)
theorem t_40_13 : am_ok lw_Ts cX5_isFault 5 RX5 13 (o_il 14 1) := so_il (Or.inl ⟨1, rfl, rfl, rfl⟩) (by decide +kernel)
theorem t_40_14 : am_ok lw_Ts cX5_isFault 5 RX5 14 (o_sw (f_sw 14 119 0 7 #[46, 58, 64, 85, 119, 119, 119, 113])) := so_sw (len := 46) (by decide +kernel) (by decide) (by decide) (by decide)
theorem t_40_60 : am_ok lw_Ts cX5_isFault 5 RX5 60 (o_al 61 0) := so_al (Or.inl ⟨0, rfl, rfl, rfl⟩) (by decide +kernel)
theorem t_40_61 : am_ok lw_Ts cX5_isFault 5 RX5 61 (o_gf 64 5 1) := so_gf cl_X5 (by decide) wt_145 (by decide +kernel)
theorem t_40_64 : am_ok lw_Ts cX5_isFault 5 RX5 64 (o_gf 67 0 3) := so_gf cl_X0 (by decide) wt_115 (by decide +kernel)
theorem t_40_67 : am_ok lw_Ts cX5_isFault 5 RX5 67 (o_il 68 3) := so_il (Or.inl ⟨3, rfl, rfl, rfl⟩) (by decide +kernel)
theorem t_40_68 : am_okc gm_mi gm_mt lw_Ts lw_Ns cX5_isFault RX5 68 67 2 := ⟨74, cf_67.1, cf_67.2.1, cf_67.2.2.1, cf_67.2.2.2, Or.inl ⟨rfl, (by decide +kernel), wt_420, by decide +kernel, (Or.inr ⟨"SeasonOfHours", by decide +kernel⟩)⟩⟩
theorem t_40_71 : am_okr cX5_isFault 71 2 := (show decode cX5_isFault 71 = .ok (.ireturn, 1) by decide +kernel)
theorem t_40_72 : am_ok lw_Ts cX5_isFault 5 RX5 72 (o_al 73 0) := so_al (Or.inl ⟨0, rfl, rfl, rfl⟩) (by decide +kernel)
theorem t_40_73 : am_ok lw_Ts cX5_isFault 5 RX5 73 (o_il 74 2) := so_il (Or.inl ⟨2, rfl, rfl, rfl⟩) (by decide +kernel)
theorem t_40_74 : am_okc gm_mi gm_mt lw_Ts lw_Ns cX5_isFault RX5 74 41 2 := ⟨77, cf_41.1, cf_41.2.1, cf_41.2.2.1, cf_41.2.2.2, Or.inr ⟨5, 1, TX5, 7, rfl, rfl, rfl, (by decide +kernel), wt_424, wt_1, wt_422, by decide +kernel⟩⟩
theorem t_40_77 : am_okr cX5_isFault 77 2 := (show decode cX5_isFault 77 = .ok (.ireturn, 1) by decide +kernel)
theorem t_40_78 : am_ok lw_Ts cX5_isFault 5 RX5 78 (o_al 79 0) := so_al (Or.inl ⟨0, rfl, rfl, rfl⟩) (by decide +kernel)
theorem t_40_79 : am_ok lw_Ts cX5_isFault 5 RX5 79 (o_gf 82 5 1) := so_gf cl_X5 (by decide) wt_145 (by decide +kernel)
theorem t_40_82 : am_ok lw_Ts cX5_isFault 5 RX5 82 (o_gf 85 0 2) := so_gf cl_X0 (by decide) wt_111 (by decide +kernel)
theorem t_40_85 : am_ok lw_Ts cX5_isFault 5 RX5 85 (o_il 86 3) := so_il (Or.inl ⟨3, rfl, rfl, rfl⟩) (by decide +kernel)
theorem t_40_86 : am_ok lw_Ts cX5_isFault 5 RX5 86 (o_aa 87) := so_aa (by decide +kernel)
theorem t_40_87 : am_ok lw_Ts cX5_isFault 5 RX5 87 (o_il 89 4) := so_il (Or.inr ⟨rfl, rfl⟩) (by decide +kernel)
theorem t_40_89 : am_ok lw_Ts cX5_isFault 5 RX5 89 (o_ia 90) := so_ia (by decide +kernel)
theorem t_40_90 : am_ok lw_Ts cX5_isFault 5 RX5 90 (o_if 97 93 q_ne) := so_if_ne (off := 7) (by decide +kernel) rfl
theorem t_40_93 : am_ok lw_Ts cX5_isFault 5 RX5 93 (o_k 94 (vI (1))) := so_k (by decide +kernel)
theorem t_40_94 : am_ok lw_Ts cX5_isFault 5 RX5 94 (o_go 98) := so_go (off := 4) (by decide +kernel) rfl
theorem t_40_97 : am_ok lw_Ts cX5_isFault 5 RX5 97 (o_k 98 (vI (0))) := so_k (by decide +kernel)
theorem t_40_98 : am_okr cX5_isFault 98 2 := (show decode cX5_isFault 98 = .ok (.ireturn, 1) by decide +kernel)
theorem t_40_99 : am_ok lw_Ts cX5_isFault 5 RX5 99 (o_al 100 0) := so_al (Or.inl ⟨0, rfl, rfl, rfl⟩) (by decide +kernel)
theorem t_40_100 : am_ok lw_Ts cX5_isFault 5 RX5 100 (o_gf 103 5 0) := so_gf cl_X5 (by decide) wt_144 (by decide +kernel)
theorem t_40_103 : am_ok lw_Ts cX5_isFault 5 RX5 103 (o_gf 106 2 1) := so_gf cl_X2 (by decide) wt_76 (by decide +kernel)
theorem t_40_106 : am_ok lw_Ts cX5_isFault 5 RX5 106 (o_il 108 4) := so_il (Or.inr ⟨rfl, rfl⟩) (by decide +kernel)
theorem t_40_108 : am_ok lw_Ts cX5_isFault 5 RX5 108 (o_ia 109) := so_ia (by decide +kernel)
theorem t_40_109 : am_ok lw_Ts cX5_isFault 5 RX5 109 (o_al 110 0) := so_al (Or.inl ⟨0, rfl, rfl, rfl⟩) (by decide +kernel)
theorem t_40_110 : am_ok lw_Ts cX5_isFault 5 RX5 110 (o_gf 113 5 3) := so_gf cl_X5 (by decide) wt_149 (by decide +kernel)
theorem t_40_113 : am_ok lw_Ts cX5_isFault 5 RX5 113 (o_il 114 2) := so_il (Or.inl ⟨2, rfl, rfl, rfl⟩) (by decide +kernel)
theorem t_40_114 : am_ok lw_Ts cX5_isFault 5 RX5 114 (o_ia 115) := so_ia (by decide +kernel)
theorem t_40_115 : am_okc gm_mi gm_mt lw_Ts lw_Ns cX5_isFault RX5 115 67 2 := ⟨74, cf_67.1, cf_67.2.1, cf_67.2.2.1, cf_67.2.2.2, Or.inl ⟨rfl, (by decide +kernel), wt_420, by decide +kernel, (Or.inr ⟨"SeasonOfHours", by decide +kernel⟩)⟩⟩
theorem t_40_118 : am_ok lw_Ts cX5_isFault 5 RX5 118 (o_if 125 121 q_ne) := so_if_ne (off := 7) (by decide +kernel) rfl
theorem t_40_121 : am_ok lw_Ts cX5_isFault 5 RX5 121 (o_k 122 (vI (1))) := so_k (by decide +kernel)
theorem t_40_122 : am_ok lw_Ts cX5_isFault 5 RX5 122 (o_go 126) := so_go (off := 4) (by decide +kernel) rfl
theorem t_40_125 : am_ok lw_Ts cX5_isFault 5 RX5 125 (o_k 126 (vI (0))) := so_k (by decide +kernel)
theorem t_40_126 : am_okr cX5_isFault 126 2 := (show decode cX5_isFault 126 = .ok (.ireturn, 1) by decide +kernel)
theorem t_40_127 : am_ok lw_Ts cX5_isFault 5 RX5 127 (o_al 128 0) := so_al (Or.inl ⟨0, rfl, rfl, rfl⟩) (by decide +kernel)
theorem t_40_128 : am_ok lw_Ts cX5_isFault 5 RX5 128 (o_il 129 2) := so_il (Or.inl ⟨2, rfl, rfl, rfl⟩) (by decide +kernel)
theorem t_40_129 : am_okc gm_mi gm_mt lw_Ts lw_Ns cX5_isFault RX5 129 44 2 := ⟨84, cf_44.1, cf_44.2.1, cf_44.2.2.1, cf_44.2.2.2, Or.inr ⟨5, 1, TX5, 7, rfl, rfl, rfl, (by decide +kernel), wt_428, wt_2, wt_426, by decide +kernel⟩⟩
theorem t_40_132 : am_okr cX5_isFault 132 2 := (show decode cX5_isFault 132 = .ok (.ireturn, 1) by decide +kernel)
theorem t_40_133 : am_ok lw_Ts cX5_isFault 5 RX5 133 (o_al 134 0) := so_al (Or.inl ⟨0, rfl, rfl, rfl⟩) (by decide +kernel)
theorem t_40_134 : am_ok lw_Ts cX5_isFault 5 RX5 134 (o_il 135 1) := so_il (Or.inl ⟨1, rfl, rfl, rfl⟩) (by decide +kernel)
theorem t_40_135 : am_ok lw_Ts cX5_isFault 5 RX5 135 (o_il 136 2) := so_il (Or.inl ⟨2, rfl, rfl, rfl⟩) (by decide +kernel)
theorem t_40_136 : am_okc gm_mi gm_mt lw_Ts lw_Ns cX5_isFault RX5 136 42 3 := ⟨87, cf_42.1, cf_42.2.1, cf_42.2.2.1, cf_42.2.2.2, Or.inr ⟨5, 2, TX5, 7, rfl, rfl, rfl, (by decide +kernel), wt_437, wt_3, wt_435, by decide +kernel⟩⟩
theorem t_40_139 : am_okr cX5_isFault 139 2 := (show decode cX5_isFault 139 = .ok (.ireturn, 1) by decide +kernel)
set_option maxRecDepth 20000 in
theorem ok_40 : am_okL gm_mi gm_mt lw_Ts lw_Ns 40 cd_40 := ⟨t_40_0, t_40_1, t_40_2, t_40_5, t_40_6, t_40_7, t_40_8, t_40_11, t_40_13, t_40_14, t_40_60, t_40_61, t_40_64, t_40_67, t_40_68, t_40_71, t_40_72, t_40_73, t_40_74, t_40_77, t_40_78, t_40_79, t_40_82, t_40_85, t_40_86, t_40_87, t_40_89, t_40_90, t_40_93, t_40_94, t_40_97, t_40_98, t_40_99, t_40_100, t_40_103, t_40_106, t_40_108, t_40_109, t_40_110, t_40_113, t_40_114, t_40_115, t_40_118, t_40_121, t_40_122, t_40_125, t_40_126, t_40_127, t_40_128, t_40_129, t_40_132, t_40_133, t_40_134, t_40_135, t_40_136, t_40_139, trivial⟩
theorem t_41_0 : am_ok lw_Ts cX5_isArtistAhead 3 RX5 0 (o_k 1 (vI (0))) := so_k (by decide +kernel)
theorem t_41_1 : am_ok lw_Ts cX5_isArtistAhead 3 RX5 1 (o_is 2 2) := so_is (Or.inl ⟨2, rfl, rfl, rfl⟩) (by decide +kernel)
theorem t_41_2 : am_ok lw_Ts cX5_isArtistAhead 3 RX5 2 (o_il 3 2) := so_il (Or.inl ⟨2, rfl, rfl, rfl⟩) (by decide +kernel)
theorem t_41_3 : am_ok lw_Ts cX5_isArtistAhead 3 RX5 3 (o_il 4 1) := so_il (Or.inl ⟨1, rfl, rfl, rfl⟩) (by decide +kernel)
theorem t_41_4 : am_ok lw_Ts cX5_isArtistAhead 3 RX5 4 (o_ic 28 7 r_ge) := so_ic_ge (off := 24) (by decide +kernel) rfl
theorem t_41_7 : am_ok lw_Ts cX5_isArtistAhead 3 RX5 7 (o_al 8 0) := so_al (Or.inl ⟨0, rfl, rfl, rfl⟩) (by decide +kernel)
theorem t_41_8 : am_ok lw_Ts cX5_isArtistAhead 3 RX5 8 (o_il 9 2) := so_il (Or.inl ⟨2, rfl, rfl, rfl⟩) (by decide +kernel)
theorem t_41_9 : am_okc gm_mi gm_mt lw_Ts lw_Ns cX5_isArtistAhead RX5 9 35 2 := ⟨60, cf_35.1, cf_35.2.1, cf_35.2.2.1, cf_35.2.2.2, Or.inr ⟨5, 1, TX5, 7, rfl, rfl, rfl, (by decide +kernel), wt_391, wt_392, wt_390, by decide +kernel⟩⟩
theorem t_41_12 : am_ok lw_Ts cX5_isArtistAhead 3 RX5 12 (o_al 13 0) := so_al (Or.inl ⟨0, rfl, rfl, rfl⟩) (by decide +kernel)
theorem t_41_13 : am_ok lw_Ts cX5_isArtistAhead 3 RX5 13 (o_il 14 1) := so_il (Or.inl ⟨1, rfl, rfl, rfl⟩) (by decide +kernel)
theorem t_41_14 : am_okc gm_mi gm_mt lw_Ts lw_Ns cX5_isArtistAhead RX5 14 35 2 := ⟨60, cf_35.1, cf_35.2.1, cf_35.2.2.1, cf_35.2.2.2, Or.inr ⟨5, 1, TX5, 7, rfl, rfl, rfl, (by decide +kernel), wt_391, wt_392, wt_390, by decide +kernel⟩⟩
theorem t_41_17 : am_ok lw_Ts cX5_isArtistAhead 3 RX5 17 (o_ic 22 20 r_ne) := so_ic_ne (off := 5) (by decide +kernel) rfl
theorem t_41_20 : am_ok lw_Ts cX5_isArtistAhead 3 RX5 20 (o_k 21 (vI (1))) := so_k (by decide +kernel)
theorem t_41_21 : am_okr cX5_isArtistAhead 21 2 := (show decode cX5_isArtistAhead 21 = .ok (.ireturn, 1) by decide +kernel)
theorem t_41_22 : am_ok lw_Ts cX5_isArtistAhead 3 RX5 22 (o_ii 25 2 (1)) := so_ii (by decide +kernel)
theorem t_41_25 : am_ok lw_Ts cX5_isArtistAhead 3 RX5 25 (o_go 2) := so_go (off := (-23)) (by decide +kernel) rfl
theorem t_41_28 : am_ok lw_Ts cX5_isArtistAhead 3 RX5 28 (o_k 29 (vI (0))) := so_k (by decide +kernel)
theorem t_41_29 : am_okr cX5_isArtistAhead 29 2 := (show decode cX5_isArtistAhead 29 = .ok (.ireturn, 1) by decide +kernel)
set_option maxRecDepth 20000 in
theorem ok_41 : am_okL gm_mi gm_mt lw_Ts lw_Ns 41 cd_41 := ⟨t_41_0, t_41_1, t_41_2, t_41_3, t_41_4, t_41_7, t_41_8, t_41_9, t_41_12, t_41_13, t_41_14, t_41_17, t_41_20, t_41_21, t_41_22, t_41_25, t_41_28, t_41_29, trivial⟩
theorem t_42_0 : am_ok lw_Ts cX5_clashesInEvening 4 RX5 0 (o_il 1 2) := so_il (Or.inl ⟨2, rfl, rfl, rfl⟩) (by decide +kernel)
theorem t_42_1 : am_ok lw_Ts cX5_clashesInEvening 4 RX5 1 (o_al 2 0) := so_al (Or.inl ⟨0, rfl, rfl, rfl⟩) (by decide +kernel)
theorem t_42_2 : am_ok lw_Ts cX5_clashesInEvening 4 RX5 2 (o_gf 5 5 3) := so_gf cl_X5 (by decide) wt_149 (by decide +kernel)
theorem t_42_5 : am_ok lw_Ts cX5_clashesInEvening 4 RX5 5 (o_il 6 2) := so_il (Or.inl ⟨2, rfl, rfl, rfl⟩) (by decide +kernel)
theorem t_42_6 : am_ok lw_Ts cX5_clashesInEvening 4 RX5 6 (o_ia 7) := so_ia (by decide +kernel)
theorem t_42_7 : am_ok lw_Ts cX5_clashesInEvening 4 RX5 7 (o_ib 8 f_sub) := so_isub (by decide +kernel)
theorem t_42_8 : am_ok lw_Ts cX5_clashesInEvening 4 RX5 8 (o_is 9 3) := so_is (Or.inl ⟨3, rfl, rfl, rfl⟩) (by decide +kernel)
theorem t_42_9 : am_ok lw_Ts cX5_clashesInEvening 4 RX5 9 (o_il 10 3) := so_il (Or.inl ⟨3, rfl, rfl, rfl⟩) (by decide +kernel)
theorem t_42_10 : am_ok lw_Ts cX5_clashesInEvening 4 RX5 10 (o_il 11 2) := so_il (Or.inl ⟨2, rfl, rfl, rfl⟩) (by decide +kernel)
theorem t_42_11 : am_ok lw_Ts cX5_clashesInEvening 4 RX5 11 (o_ic 40 14 r_ge) := so_ic_ge (off := 29) (by decide +kernel) rfl
theorem t_42_14 : am_ok lw_Ts cX5_clashesInEvening 4 RX5 14 (o_al 15 0) := so_al (Or.inl ⟨0, rfl, rfl, rfl⟩) (by decide +kernel)
theorem t_42_15 : am_ok lw_Ts cX5_clashesInEvening 4 RX5 15 (o_il 16 3) := so_il (Or.inl ⟨3, rfl, rfl, rfl⟩) (by decide +kernel)
theorem t_42_16 : am_okc gm_mi gm_mt lw_Ts lw_Ns cX5_clashesInEvening RX5 16 34 2 := ⟨50, cf_34.1, cf_34.2.1, cf_34.2.2.1, cf_34.2.2.2, Or.inr ⟨5, 1, TX5, 7, rfl, rfl, rfl, (by decide +kernel), wt_383, wt_384, wt_382, by decide +kernel⟩⟩
theorem t_42_19 : am_ok lw_Ts cX5_clashesInEvening 4 RX5 19 (o_if 34 22 q_eq) := so_if_eq (off := 15) (by decide +kernel) rfl
theorem t_42_22 : am_ok lw_Ts cX5_clashesInEvening 4 RX5 22 (o_al 23 0) := so_al (Or.inl ⟨0, rfl, rfl, rfl⟩) (by decide +kernel)
theorem t_42_23 : am_ok lw_Ts cX5_clashesInEvening 4 RX5 23 (o_il 24 1) := so_il (Or.inl ⟨1, rfl, rfl, rfl⟩) (by decide +kernel)
theorem t_42_24 : am_ok lw_Ts cX5_clashesInEvening 4 RX5 24 (o_il 25 3) := so_il (Or.inl ⟨3, rfl, rfl, rfl⟩) (by decide +kernel)
theorem t_42_25 : am_ok lw_Ts cX5_clashesInEvening 4 RX5 25 (o_il 26 2) := so_il (Or.inl ⟨2, rfl, rfl, rfl⟩) (by decide +kernel)
theorem t_42_26 : am_okc gm_mi gm_mt lw_Ts lw_Ns cX5_clashesInEvening RX5 26 43 4 := ⟨90, cf_43.1, cf_43.2.1, cf_43.2.2.1, cf_43.2.2.2, Or.inr ⟨5, 3, TX5, 7, rfl, rfl, rfl, (by decide +kernel), wt_441, wt_4, wt_439, by decide +kernel⟩⟩
theorem t_42_29 : am_ok lw_Ts cX5_clashesInEvening 4 RX5 29 (o_if 34 32 q_eq) := so_if_eq (off := 5) (by decide +kernel) rfl
theorem t_42_32 : am_ok lw_Ts cX5_clashesInEvening 4 RX5 32 (o_k 33 (vI (1))) := so_k (by decide +kernel)
theorem t_42_33 : am_okr cX5_clashesInEvening 33 2 := (show decode cX5_clashesInEvening 33 = .ok (.ireturn, 1) by decide +kernel)
theorem t_42_34 : am_ok lw_Ts cX5_clashesInEvening 4 RX5 34 (o_ii 37 3 (1)) := so_ii (by decide +kernel)
theorem t_42_37 : am_ok lw_Ts cX5_clashesInEvening 4 RX5 37 (o_go 9) := so_go (off := (-28)) (by decide +kernel) rfl
theorem t_42_40 : am_ok lw_Ts cX5_clashesInEvening 4 RX5 40 (o_k 41 (vI (0))) := so_k (by decide +kernel)
theorem t_42_41 : am_okr cX5_clashesInEvening 41 2 := (show decode cX5_clashesInEvening 41 = .ok (.ireturn, 1) by decide +kernel)
set_option maxRecDepth 20000 in
theorem ok_42 : am_okL gm_mi gm_mt lw_Ts lw_Ns 42 cd_42 := ⟨t_42_0, t_42_1, t_42_2, t_42_5, t_42_6, t_42_7, t_42_8, t_42_9, t_42_10, t_42_11, t_42_14, t_42_15, t_42_16, t_42_19, t_42_22, t_42_23, t_42_24, t_42_25, t_42_26, t_42_29, t_42_32, t_42_33, t_42_34, t_42_37, t_42_40, t_42_41, trivial⟩
theorem t_43_0 : am_ok lw_Ts cX5_clash 4 RX5 0 (o_il 1 1) := so_il (Or.inl ⟨1, rfl, rfl, rfl⟩) (by decide +kernel)
theorem t_43_1 : am_ok lw_Ts cX5_clash 4 RX5 1 (o_sw (f_lk 1 81 [(4, 27), (5, 46)])) := so_lk2 (len := 27) (ps := #[(4, 27), (5, 46)]) (by decide +kernel) (by decide) (fun x => by simp only [Op.lookupswitch.offset_cons, Op.lookupswitch.offset_nil]; split <;> (try split) <;> omega)
theorem t_43_28 : am_ok lw_Ts cX5_clash 4 RX5 28 (o_al 29 0) := so_al (Or.inl ⟨0, rfl, rfl, rfl⟩) (by decide +kernel)
theorem t_43_29 : am_ok lw_Ts cX5_clash 4 RX5 29 (o_il 30 2) := so_il (Or.inl ⟨2, rfl, rfl, rfl⟩) (by decide +kernel)
theorem t_43_30 : am_okc gm_mi gm_mt lw_Ts lw_Ns cX5_clash RX5 30 36 2 := ⟨64, cf_36.1, cf_36.2.1, cf_36.2.2.1, cf_36.2.2.2, Or.inr ⟨5, 1, TX5, 7, rfl, rfl, rfl, (by decide +kernel), wt_395, wt_396, wt_394, by decide +kernel⟩⟩
theorem t_43_33 : am_ok lw_Ts cX5_clash 4 RX5 33 (o_al 34 0) := so_al (Or.inl ⟨0, rfl, rfl, rfl⟩) (by decide +kernel)
theorem t_43_34 : am_ok lw_Ts cX5_clash 4 RX5 34 (o_il 35 3) := so_il (Or.inl ⟨3, rfl, rfl, rfl⟩) (by decide +kernel)
theorem t_43_35 : am_okc gm_mi gm_mt lw_Ts lw_Ns cX5_clash RX5 35 36 2 := ⟨64, cf_36.1, cf_36.2.1, cf_36.2.2.1, cf_36.2.2.2, Or.inr ⟨5, 1, TX5, 7, rfl, rfl, rfl, (by decide +kernel), wt_395, wt_396, wt_394, by decide +kernel⟩⟩
theorem t_43_38 : am_ok lw_Ts cX5_clash 4 RX5 38 (o_ic 45 41 r_ne) := so_ic_ne (off := 7) (by decide +kernel) rfl
theorem t_43_41 : am_ok lw_Ts cX5_clash 4 RX5 41 (o_k 42 (vI (1))) := so_k (by decide +kernel)
theorem t_43_42 : am_ok lw_Ts cX5_clash 4 RX5 42 (o_go 46) := so_go (off := 4) (by decide +kernel) rfl
theorem t_43_45 : am_ok lw_Ts cX5_clash 4 RX5 45 (o_k 46 (vI (0))) := so_k (by decide +kernel)
theorem t_43_46 : am_okr cX5_clash 46 2 := (show decode cX5_clash 46 = .ok (.ireturn, 1) by decide +kernel)
theorem t_43_47 : am_ok lw_Ts cX5_clash 4 RX5 47 (o_al 48 0) := so_al (Or.inl ⟨0, rfl, rfl, rfl⟩) (by decide +kernel)
theorem t_43_48 : am_ok lw_Ts cX5_clash 4 RX5 48 (o_gf 51 5 1) := so_gf cl_X5 (by decide) wt_145 (by decide +kernel)
theorem t_43_51 : am_ok lw_Ts cX5_clash 4 RX5 51 (o_gf 54 0 0) := so_gf cl_X0 (by decide) wt_103 (by decide +kernel)
theorem t_43_54 : am_ok lw_Ts cX5_clash 4 RX5 54 (o_al 55 0) := so_al (Or.inl ⟨0, rfl, rfl, rfl⟩) (by decide +kernel)
theorem t_43_55 : am_ok lw_Ts cX5_clash 4 RX5 55 (o_il 56 2) := so_il (Or.inl ⟨2, rfl, rfl, rfl⟩) (by decide +kernel)
theorem t_43_56 : am_okc gm_mi gm_mt lw_Ts lw_Ns cX5_clash RX5 56 35 2 := ⟨60, cf_35.1, cf_35.2.1, cf_35.2.2.1, cf_35.2.2.2, Or.inr ⟨5, 1, TX5, 7, rfl, rfl, rfl, (by decide +kernel), wt_391, wt_392, wt_390, by decide +kernel⟩⟩
theorem t_43_59 : am_ok lw_Ts cX5_clash 4 RX5 59 (o_ia 60) := so_ia (by decide +kernel)
theorem t_43_60 : am_ok lw_Ts cX5_clash 4 RX5 60 (o_al 61 0) := so_al (Or.inl ⟨0, rfl, rfl, rfl⟩) (by decide +kernel)
theorem t_43_61 : am_ok lw_Ts cX5_clash 4 RX5 61 (o_gf 64 5 1) := so_gf cl_X5 (by decide) wt_145 (by decide +kernel)
theorem t_43_64 : am_ok lw_Ts cX5_clash 4 RX5 64 (o_gf 67 0 0) := so_gf cl_X0 (by decide) wt_103 (by decide +kernel)
theorem t_43_67 : am_ok lw_Ts cX5_clash 4 RX5 67 (o_al 68 0) := so_al (Or.inl ⟨0, rfl, rfl, rfl⟩) (by decide +kernel)
theorem t_43_68 : am_ok lw_Ts cX5_clash 4 RX5 68 (o_il 69 3) := so_il (Or.inl ⟨3, rfl, rfl, rfl⟩) (by decide +kernel)
theorem t_43_69 : am_okc gm_mi gm_mt lw_Ts lw_Ns cX5_clash RX5 69 35 2 := ⟨60, cf_35.1, cf_35.2.1, cf_35.2.2.1, cf_35.2.2.2, Or.inr ⟨5, 1, TX5, 7, rfl, rfl, rfl, (by decide +kernel), wt_391, wt_392, wt_390, by decide +kernel⟩⟩
theorem t_43_72 : am_ok lw_Ts cX5_clash 4 RX5 72 (o_ia 73) := so_ia (by decide +kernel)
theorem t_43_73 : am_ok lw_Ts cX5_clash 4 RX5 73 (o_ic 80 76 r_le) := so_ic_le (off := 7) (by decide +kernel) rfl
theorem t_43_76 : am_ok lw_Ts cX5_clash 4 RX5 76 (o_k 77 (vI (1))) := so_k (by decide +kernel)
theorem t_43_77 : am_ok lw_Ts cX5_clash 4 RX5 77 (o_go 81) := so_go (off := 4) (by decide +kernel) rfl
theorem t_43_80 : am_ok lw_Ts cX5_clash 4 RX5 80 (o_k 81 (vI (0))) := so_k (by decide +kernel)
theorem t_43_81 : am_okr cX5_clash 81 2 := (show decode cX5_clash 81 = .ok (.ireturn, 1) by decide +kernel)
theorem t_43_82 : am_ok lw_Ts cX5_clash 4 RX5 82 (o_al 83 0) := so_al (Or.inl ⟨0, rfl, rfl, rfl⟩) (by decide +kernel)
theorem t_43_83 : am_ok lw_Ts cX5_clash 4 RX5 83 (o_gf 86 5 1) := so_gf cl_X5 (by decide) wt_145 (by decide +kernel)
theorem t_43_86 : am_ok lw_Ts cX5_clash 4 RX5 86 (o_gf 89 0 1) := so_gf cl_X0 (by decide) wt_107 (by decide +kernel)
theorem t_43_89 : am_ok lw_Ts cX5_clash 4 RX5 89 (o_al 90 0) := so_al (Or.inl ⟨0, rfl, rfl, rfl⟩) (by decide +kernel)
theorem t_43_90 : am_ok lw_Ts cX5_clash 4 RX5 90 (o_il 91 3) := so_il (Or.inl ⟨3, rfl, rfl, rfl⟩) (by decide +kernel)
theorem t_43_91 : am_okc gm_mi gm_mt lw_Ts lw_Ns cX5_clash RX5 91 35 2 := ⟨60, cf_35.1, cf_35.2.1, cf_35.2.2.1, cf_35.2.2.2, Or.inr ⟨5, 1, TX5, 7, rfl, rfl, rfl, (by decide +kernel), wt_391, wt_392, wt_390, by decide +kernel⟩⟩
theorem t_43_94 : am_ok lw_Ts cX5_clash 4 RX5 94 (o_ia 95) := so_ia (by decide +kernel)
theorem t_43_95 : am_ok lw_Ts cX5_clash 4 RX5 95 (o_al 96 0) := so_al (Or.inl ⟨0, rfl, rfl, rfl⟩) (by decide +kernel)
theorem t_43_96 : am_ok lw_Ts cX5_clash 4 RX5 96 (o_il 97 2) := so_il (Or.inl ⟨2, rfl, rfl, rfl⟩) (by decide +kernel)
theorem t_43_97 : am_okc gm_mi gm_mt lw_Ts lw_Ns cX5_clash RX5 97 35 2 := ⟨60, cf_35.1, cf_35.2.1, cf_35.2.2.1, cf_35.2.2.2, Or.inr ⟨5, 1, TX5, 7, rfl, rfl, rfl, (by decide +kernel), wt_391, wt_392, wt_390, by decide +kernel⟩⟩
theorem t_43_100 : am_okc gm_mi gm_mt lw_Ts lw_Ns cX5_clash RX5 100 67 2 := ⟨74, cf_67.1, cf_67.2.1, cf_67.2.2.1, cf_67.2.2.2, Or.inl ⟨rfl, (by decide +kernel), wt_420, by decide +kernel, (Or.inr ⟨"SeasonOfHours", by decide +kernel⟩)⟩⟩
theorem t_43_103 : am_okr cX5_clash 103 2 := (show decode cX5_clash 103 = .ok (.ireturn, 1) by decide +kernel)
set_option maxRecDepth 20000 in
theorem ok_43 : am_okL gm_mi gm_mt lw_Ts lw_Ns 43 cd_43 := ⟨t_43_0, t_43_1, t_43_28, t_43_29, t_43_30, t_43_33, t_43_34, t_43_35, t_43_38, t_43_41, t_43_42, t_43_45, t_43_46, t_43_47, t_43_48, t_43_51, t_43_54, t_43_55, t_43_56, t_43_59, t_43_60, t_43_61, t_43_64, t_43_67, t_43_68, t_43_69, t_43_72, t_43_73, t_43_76, t_43_77, t_43_80, t_43_81, t_43_82, t_43_83, t_43_86, t_43_89, t_43_90, t_43_91, t_43_94, t_43_95, t_43_96, t_43_97, t_43_100, t_43_103, trivial⟩
theorem t_44_0 : am_ok lw_Ts cX5_isTooNearOneAhead 3 RX5 0 (o_il 1 1) := so_il (Or.inl ⟨1, rfl, rfl, rfl⟩) (by decide +kernel)
theorem t_44_1 : am_ok lw_Ts cX5_isTooNearOneAhead 3 RX5 1 (o_k 2 (vI (1))) := so_k (by decide +kernel)
theorem t_44_2 : am_ok lw_Ts cX5_isTooNearOneAhead 3 RX5 2 (o_ib 3 f_sub) := so_isub (by decide +kernel)
theorem t_44_3 : am_ok lw_Ts cX5_isTooNearOneAhead 3 RX5 3 (o_is 4 2) := so_is (Or.inl ⟨2, rfl, rfl, rfl⟩) (by decide +kernel)
theorem t_44_4 : am_ok lw_Ts cX5_isTooNearOneAhead 3 RX5 4 (o_il 5 2) := so_il (Or.inl ⟨2, rfl, rfl, rfl⟩) (by decide +kernel)
theorem t_44_5 : am_ok lw_Ts cX5_isTooNearOneAhead 3 RX5 5 (o_il 6 1) := so_il (Or.inl ⟨1, rfl, rfl, rfl⟩) (by decide +kernel)
theorem t_44_6 : am_ok lw_Ts cX5_isTooNearOneAhead 3 RX5 6 (o_al 7 0) := so_al (Or.inl ⟨0, rfl, rfl, rfl⟩) (by decide +kernel)
theorem t_44_7 : am_ok lw_Ts cX5_isTooNearOneAhead 3 RX5 7 (o_gf 10 5 3) := so_gf cl_X5 (by decide) wt_149 (by decide +kernel)
theorem t_44_10 : am_ok lw_Ts cX5_isTooNearOneAhead 3 RX5 10 (o_il 11 1) := so_il (Or.inl ⟨1, rfl, rfl, rfl⟩) (by decide +kernel)
theorem t_44_11 : am_ok lw_Ts cX5_isTooNearOneAhead 3 RX5 11 (o_ia 12) := so_ia (by decide +kernel)
theorem t_44_12 : am_ok lw_Ts cX5_isTooNearOneAhead 3 RX5 12 (o_ib 13 f_sub) := so_isub (by decide +kernel)
theorem t_44_13 : am_ok lw_Ts cX5_isTooNearOneAhead 3 RX5 13 (o_ic 48 16 r_lt) := so_ic_lt (off := 35) (by decide +kernel) rfl
theorem t_44_16 : am_ok lw_Ts cX5_isTooNearOneAhead 3 RX5 16 (o_al 17 0) := so_al (Or.inl ⟨0, rfl, rfl, rfl⟩) (by decide +kernel)
theorem t_44_17 : am_ok lw_Ts cX5_isTooNearOneAhead 3 RX5 17 (o_il 18 2) := so_il (Or.inl ⟨2, rfl, rfl, rfl⟩) (by decide +kernel)
theorem t_44_18 : am_okc gm_mi gm_mt lw_Ts lw_Ns cX5_isTooNearOneAhead RX5 18 34 2 := ⟨50, cf_34.1, cf_34.2.1, cf_34.2.2.1, cf_34.2.2.2, Or.inr ⟨5, 1, TX5, 7, rfl, rfl, rfl, (by decide +kernel), wt_383, wt_384, wt_382, by decide +kernel⟩⟩
theorem t_44_21 : am_ok lw_Ts cX5_isTooNearOneAhead 3 RX5 21 (o_if 42 24 q_eq) := so_if_eq (off := 21) (by decide +kernel) rfl
theorem t_44_24 : am_ok lw_Ts cX5_isTooNearOneAhead 3 RX5 24 (o_al 25 0) := so_al (Or.inl ⟨0, rfl, rfl, rfl⟩) (by decide +kernel)
theorem t_44_25 : am_ok lw_Ts cX5_isTooNearOneAhead 3 RX5 25 (o_gf 28 5 0) := so_gf cl_X5 (by decide) wt_144 (by decide +kernel)
theorem t_44_28 : am_ok lw_Ts cX5_isTooNearOneAhead 3 RX5 28 (o_al 29 0) := so_al (Or.inl ⟨0, rfl, rfl, rfl⟩) (by decide +kernel)
theorem t_44_29 : am_ok lw_Ts cX5_isTooNearOneAhead 3 RX5 29 (o_il 30 2) := so_il (Or.inl ⟨2, rfl, rfl, rfl⟩) (by decide +kernel)
theorem t_44_30 : am_okc gm_mi gm_mt lw_Ts lw_Ns cX5_isTooNearOneAhead RX5 30 36 2 := ⟨64, cf_36.1, cf_36.2.1, cf_36.2.2.1, cf_36.2.2.2, Or.inr ⟨5, 1, TX5, 7, rfl, rfl, rfl, (by decide +kernel), wt_395, wt_396, wt_394, by decide +kernel⟩⟩
theorem t_44_33 : am_ok lw_Ts cX5_isTooNearOneAhead 3 RX5 33 (o_al 34 0) := so_al (Or.inl ⟨0, rfl, rfl, rfl⟩) (by decide +kernel)
theorem t_44_34 : am_ok lw_Ts cX5_isTooNearOneAhead 3 RX5 34 (o_il 35 1) := so_il (Or.inl ⟨1, rfl, rfl, rfl⟩) (by decide +kernel)
theorem t_44_35 : am_okc gm_mi gm_mt lw_Ts lw_Ns cX5_isTooNearOneAhead RX5 35 36 2 := ⟨64, cf_36.1, cf_36.2.1, cf_36.2.2.1, cf_36.2.2.2, Or.inr ⟨5, 1, TX5, 7, rfl, rfl, rfl, (by decide +kernel), wt_395, wt_396, wt_394, by decide +kernel⟩⟩
theorem t_44_38 : am_okc gm_mi gm_mt lw_Ts lw_Ns cX5_isTooNearOneAhead RX5 38 11 3 := ⟨99, cf_11.1, cf_11.2.1, cf_11.2.2.1, cf_11.2.2.2, Or.inr ⟨2, 2, TX2, 4, rfl, rfl, rfl, (by decide +kernel), wt_431, wt_432, wt_430, by decide +kernel⟩⟩
theorem t_44_41 : am_okr cX5_isTooNearOneAhead 41 2 := (show decode cX5_isTooNearOneAhead 41 = .ok (.ireturn, 1) by decide +kernel)
theorem t_44_42 : am_ok lw_Ts cX5_isTooNearOneAhead 3 RX5 42 (o_ii 45 2 (-1)) := so_ii (by decide +kernel)
theorem t_44_45 : am_ok lw_Ts cX5_isTooNearOneAhead 3 RX5 45 (o_go 4) := so_go (off := (-41)) (by decide +kernel) rfl
theorem t_44_48 : am_ok lw_Ts cX5_isTooNearOneAhead 3 RX5 48 (o_k 49 (vI (0))) := so_k (by decide +kernel)
theorem t_44_49 : am_okr cX5_isTooNearOneAhead 49 2 := (show decode cX5_isTooNearOneAhead 49 = .ok (.ireturn, 1) by decide +kernel)
set_option maxRecDepth 20000 in
theorem ok_44 : am_okL gm_mi gm_mt lw_Ts lw_Ns 44 cd_44 := ⟨t_44_0, t_44_1, t_44_2, t_44_3, t_44_4, t_44_5, t_44_6, t_44_7, t_44_10, t_44_11, t_44_12, t_44_13, t_44_16, t_44_17, t_44_18, t_44_21, t_44_24, t_44_25, t_44_28, t_44_29, t_44_30, t_44_33, t_44_34, t_44_35, t_44_38, t_44_41, t_44_42, t_44_45, t_44_48, t_44_49, trivial⟩
theorem t_45_0 : am_ok lw_Ts cX6_mode 3 RX6 0 (o_il 1 1) := so_il (Or.inl ⟨1, rfl, rfl, rfl⟩) (by decide +kernel)
theorem t_45_1 : am_ok lw_Ts cX6_mode 3 RX6 1 (o_k 2 (vI (0))) := so_k (by decide +kernel)
theorem t_45_2 : am_ok lw_Ts cX6_mode 3 RX6 2 (o_k 5 (vI (4095))) := so_sp rfl (by decide +kernel)
theorem t_45_5 : am_okc gm_mi gm_mt lw_Ts lw_Ns cX6_mode RX6 5 66 3 := ⟨59, cf_66.1, cf_66.2.1, cf_66.2.2.1, cf_66.2.2.2, Or.inl ⟨rfl, (by decide +kernel), wt_312, by decide +kernel, (Or.inl wt_311)⟩⟩
theorem t_45_8 : am_ok lw_Ts cX6_mode 3 RX6 8 (o_if 21 11 q_eq) := so_if_eq (off := 13) (by decide +kernel) rfl
theorem t_45_11 : am_ok lw_Ts cX6_mode 3 RX6 11 (o_il 12 2) := so_il (Or.inl ⟨2, rfl, rfl, rfl⟩) (by decide +kernel)
theorem t_45_12 : am_ok lw_Ts cX6_mode 3 RX6 12 (o_k 13 (vI (0))) := so_k (by decide +kernel)
theorem t_45_13 : am_ok lw_Ts cX6_mode 3 RX6 13 (o_k 15 (vI (15))) := so_bp rfl (by decide +kernel)
theorem t_45_15 : am_okc gm_mi gm_mt lw_Ts lw_Ns cX6_mode RX6 15 66 3 := ⟨59, cf_66.1, cf_66.2.1, cf_66.2.2.1, cf_66.2.2.2, Or.inl ⟨rfl, (by decide +kernel), wt_312, by decide +kernel, (Or.inl wt_311)⟩⟩
theorem t_45_18 : am_ok lw_Ts cX6_mode 3 RX6 18 (o_if 23 21 q_ne) := so_if_ne (off := 5) (by decide +kernel) rfl
theorem t_45_21 : am_ok lw_Ts cX6_mode 3 RX6 21 (o_k 22 (vI (-1))) := so_k (by decide +kernel)
theorem t_45_22 : am_okr cX6_mode 22 1 := (show decode cX6_mode 22 = .ok (.ireturn, 1) by decide +kernel)
theorem t_45_23 : am_ok lw_Ts cX6_mode 3 RX6 23 (o_al 24 0) := so_al (Or.inl ⟨0, rfl, rfl, rfl⟩) (by decide +kernel)
theorem t_45_24 : am_ok lw_Ts cX6_mode 3 RX6 24 (o_gf 27 6 0) := so_gf cl_X6 (by decide) wt_288 (by decide +kernel)
theorem t_45_27 : am_ok lw_Ts cX6_mode 3 RX6 27 (o_il 28 1) := so_il (Or.inl ⟨1, rfl, rfl, rfl⟩) (by decide +kernel)
theorem t_45_28 : am_ok lw_Ts cX6_mode 3 RX6 28 (o_il 29 2) := so_il (Or.inl ⟨2, rfl, rfl, rfl⟩) (by decide +kernel)
theorem t_45_29 : am_okc gm_mi gm_mt lw_Ts lw_Ns cX6_mode RX6 29 9 3 := ⟨63, cf_9.1, cf_9.2.1, cf_9.2.2.1, cf_9.2.2.2, Or.inr ⟨2, 2, TX2, 4, rfl, rfl, rfl, (by decide +kernel), wt_315, wt_316, wt_314, by decide +kernel⟩⟩
theorem t_45_32 : am_okr cX6_mode 32 1 := (show decode cX6_mode 32 = .ok (.ireturn, 1) by decide +kernel)
set_option maxRecDepth 20000 in
theorem ok_45 : am_okL gm_mi gm_mt lw_Ts lw_Ns 45 cd_45 := ⟨t_45_0, t_45_1, t_45_2, t_45_5, t_45_8, t_45_11, t_45_12, t_45_13, t_45_15, t_45_18, t_45_21, t_45_22, t_45_23, t_45_24, t_45_27, t_45_28, t_45_29, t_45_32, trivial⟩
theorem t_46_0 : am_ok lw_Ts cX6_artist 2 RX6 0 (o_il 1 1) := so_il (Or.inl ⟨1, rfl, rfl, rfl⟩) (by decide +kernel)
theorem t_46_1 : am_ok lw_Ts cX6_artist 2 RX6 1 (o_k 2 (vI (1))) := so_k (by decide +kernel)
theorem t_46_2 : am_ok lw_Ts cX6_artist 2 RX6 2 (o_k 4 (vI (9))) := so_bp rfl (by decide +kernel)
theorem t_46_4 : am_okc gm_mi gm_mt lw_Ts lw_Ns cX6_artist RX6 4 66 3 := ⟨59, cf_66.1, cf_66.2.1, cf_66.2.2.1, cf_66.2.2.2, Or.inl ⟨rfl, (by decide +kernel), wt_312, by decide +kernel, (Or.inl wt_311)⟩⟩
theorem t_46_7 : am_ok lw_Ts cX6_artist 2 RX6 7 (o_if 21 10 q_eq) := so_if_eq (off := 14) (by decide +kernel) rfl
theorem t_46_10 : am_ok lw_Ts cX6_artist 2 RX6 10 (o_al 11 0) := so_al (Or.inl ⟨0, rfl, rfl, rfl⟩) (by decide +kernel)
theorem t_46_11 : am_ok lw_Ts cX6_artist 2 RX6 11 (o_gf 14 6 1) := so_gf cl_X6 (by decide) wt_289 (by decide +kernel)
theorem t_46_14 : am_ok lw_Ts cX6_artist 2 RX6 14 (o_il 15 1) := so_il (Or.inl ⟨1, rfl, rfl, rfl⟩) (by decide +kernel)
theorem t_46_15 : am_okc gm_mi gm_mt lw_Ts lw_Ns cX6_artist RX6 15 1 2 := ⟨67, cf_1.1, cf_1.2.1, cf_1.2.2.1, cf_1.2.2.2, Or.inr ⟨0, 1, TX0, 5, rfl, rfl, rfl, (by decide +kernel), wt_323, wt_324, wt_322, by decide +kernel⟩⟩
theorem t_46_18 : am_ok lw_Ts cX6_artist 2 RX6 18 (o_go 22) := so_go (off := 4) (by decide +kernel) rfl
theorem t_46_21 : am_ok lw_Ts cX6_artist 2 RX6 21 (o_k 22 (vI (-1))) := so_k (by decide +kernel)
theorem t_46_22 : am_okr cX6_artist 22 1 := (show decode cX6_artist 22 = .ok (.ireturn, 1) by decide +kernel)
set_option maxRecDepth 20000 in
theorem ok_46 : am_okL gm_mi gm_mt lw_Ts lw_Ns 46 cd_46 := ⟨t_46_0, t_46_1, t_46_2, t_46_4, t_46_7, t_46_10, t_46_11, t_46_14, t_46_15, t_46_18, t_46_21, t_46_22, trivial⟩
theorem t_47_0 : am_ok lw_Ts cX6_like 4 RX6 0 (o_al 1 0) := so_al (Or.inl ⟨0, rfl, rfl, rfl⟩) (by decide +kernel)
theorem t_47_1 : am_ok lw_Ts cX6_like 4 RX6 1 (o_gf 4 6 1) := so_gf cl_X6 (by decide) wt_289 (by decide +kernel)
theorem t_47_4 : am_ok lw_Ts cX6_like 4 RX6 4 (o_il 5 1) := so_il (Or.inl ⟨1, rfl, rfl, rfl⟩) (by decide +kernel)
theorem t_47_5 : am_okc gm_mi gm_mt lw_Ts lw_Ns cX6_like RX6 5 0 2 := ⟨70, cf_0.1, cf_0.2.1, cf_0.2.2.1, cf_0.2.2.2, Or.inr ⟨0, 1, TX0, 5, rfl, rfl, rfl, (by decide +kernel), wt_331, wt_332, wt_330, by decide +kernel⟩⟩
theorem t_47_8 : am_ok lw_Ts cX6_like 4 RX6 8 (o_if 32 11 q_eq) := so_if_eq (off := 24) (by decide +kernel) rfl
theorem t_47_11 : am_ok lw_Ts cX6_like 4 RX6 11 (o_al 12 0) := so_al (Or.inl ⟨0, rfl, rfl, rfl⟩) (by decide +kernel)
theorem t_47_12 : am_ok lw_Ts cX6_like 4 RX6 12 (o_gf 15 6 0) := so_gf cl_X6 (by decide) wt_288 (by decide +kernel)
theorem t_47_15 : am_ok lw_Ts cX6_like 4 RX6 15 (o_il 16 2) := so_il (Or.inl ⟨2, rfl, rfl, rfl⟩) (by decide +kernel)
theorem t_47_16 : am_okc gm_mi gm_mt lw_Ts lw_Ns cX6_like RX6 16 8 2 := ⟨74, cf_8.1, cf_8.2.1, cf_8.2.2.1, cf_8.2.2.2, Or.inr ⟨2, 1, TX2, 4, rfl, rfl, rfl, (by decide +kernel), wt_336, wt_337, wt_335, by decide +kernel⟩⟩
theorem t_47_19 : am_ok lw_Ts cX6_like 4 RX6 19 (o_if 32 22 q_eq) := so_if_eq (off := 13) (by decide +kernel) rfl
theorem t_47_22 : am_ok lw_Ts cX6_like 4 RX6 22 (o_il 23 3) := so_il (Or.inl ⟨3, rfl, rfl, rfl⟩) (by decide +kernel)
theorem t_47_23 : am_ok lw_Ts cX6_like 4 RX6 23 (o_k 24 (vI (0))) := so_k (by decide +kernel)
theorem t_47_24 : am_ok lw_Ts cX6_like 4 RX6 24 (o_k 26 (vI (100))) := so_bp rfl (by decide +kernel)
theorem t_47_26 : am_okc gm_mi gm_mt lw_Ts lw_Ns cX6_like RX6 26 66 3 := ⟨59, cf_66.1, cf_66.2.1, cf_66.2.2.1, cf_66.2.2.2, Or.inl ⟨rfl, (by decide +kernel), wt_312, by decide +kernel, (Or.inl wt_311)⟩⟩
theorem t_47_29 : am_ok lw_Ts cX6_like 4 RX6 29 (o_if 34 32 q_ne) := so_if_ne (off := 5) (by decide +kernel) rfl
theorem t_47_32 : am_ok lw_Ts cX6_like 4 RX6 32 (o_k 33 (vI (0))) := so_k (by decide +kernel)
theorem t_47_33 : am_okr cX6_like 33 2 := (show decode cX6_like 33 = .ok (.ireturn, 1) by decide +kernel)
theorem t_47_34 : am_ok lw_Ts cX6_like 4 RX6 34 (o_al 35 0) := so_al (Or.inl ⟨0, rfl, rfl, rfl⟩) (by decide +kernel)
theorem t_47_35 : am_ok lw_Ts cX6_like 4 RX6 35 (o_gf 38 6 1) := so_gf cl_X6 (by decide) wt_289 (by decide +kernel)
theorem t_47_38 : am_ok lw_Ts cX6_like 4 RX6 38 (o_gf 41 0 2) := so_gf cl_X0 (by decide) wt_110 (by decide +kernel)
theorem t_47_41 : am_ok lw_Ts cX6_like 4 RX6 41 (o_il 42 1) := so_il (Or.inl ⟨1, rfl, rfl, rfl⟩) (by decide +kernel)
theorem t_47_42 : am_ok lw_Ts cX6_like 4 RX6 42 (o_aa 43) := so_aa (by decide +kernel)
theorem t_47_43 : am_ok lw_Ts cX6_like 4 RX6 43 (o_il 44 2) := so_il (Or.inl ⟨2, rfl, rfl, rfl⟩) (by decide +kernel)
theorem t_47_44 : am_ok lw_Ts cX6_like 4 RX6 44 (o_il 45 3) := so_il (Or.inl ⟨3, rfl, rfl, rfl⟩) (by decide +kernel)
theorem t_47_45 : am_ok lw_Ts cX6_like 4 RX6 45 (o_iw 46) := so_iw (by decide +kernel)
theorem t_47_46 : am_ok lw_Ts cX6_like 4 RX6 46 (o_k 47 (vI (1))) := so_k (by decide +kernel)
theorem t_47_47 : am_okr cX6_like 47 2 := (show decode cX6_like 47 = .ok (.ireturn, 1) by decide +kernel)
set_option maxRecDepth 20000 in
theorem ok_47 : am_okL gm_mi gm_mt lw_Ts lw_Ns 47 cd_47 := ⟨t_47_0, t_47_1, t_47_4, t_47_5, t_47_8, t_47_11, t_47_12, t_47_15, t_47_16, t_47_19, t_47_22, t_47_23, t_47_24, t_47_26, t_47_29, t_47_32, t_47_33, t_47_34, t_47_35, t_47_38, t_47_41, t_47_42, t_47_43, t_47_44, t_47_45, t_47_46, t_47_47, trivial⟩
theorem t_48_0 : am_ok lw_Ts cX6_rival 4 RX6 0 (o_al 1 0) := so_al (Or.inl ⟨0, rfl, rfl, rfl⟩) (by decide +kernel)
theorem t_48_1 : am_ok lw_Ts cX6_rival 4 RX6 1 (o_gf 4 6 1) := so_gf cl_X6 (by decide) wt_289 (by decide +kernel)
theorem t_48_4 : am_ok lw_Ts cX6_rival 4 RX6 4 (o_il 5 1) := so_il (Or.inl ⟨1, rfl, rfl, rfl⟩) (by decide +kernel)
theorem t_48_5 : am_okc gm_mi gm_mt lw_Ts lw_Ns cX6_rival RX6 5 0 2 := ⟨70, cf_0.1, cf_0.2.1, cf_0.2.2.1, cf_0.2.2.2, Or.inr ⟨0, 1, TX0, 5, rfl, rfl, rfl, (by decide +kernel), wt_331, wt_332, wt_330, by decide +kernel⟩⟩
theorem t_48_8 : am_ok lw_Ts cX6_rival 4 RX6 8 (o_if 27 11 q_eq) := so_if_eq (off := 19) (by decide +kernel) rfl
theorem t_48_11 : am_ok lw_Ts cX6_rival 4 RX6 11 (o_al 12 0) := so_al (Or.inl ⟨0, rfl, rfl, rfl⟩) (by decide +kernel)
theorem t_48_12 : am_ok lw_Ts cX6_rival 4 RX6 12 (o_gf 15 6 1) := so_gf cl_X6 (by decide) wt_289 (by decide +kernel)
theorem t_48_15 : am_ok lw_Ts cX6_rival 4 RX6 15 (o_il 16 2) := so_il (Or.inl ⟨2, rfl, rfl, rfl⟩) (by decide +kernel)
theorem t_48_16 : am_okc gm_mi gm_mt lw_Ts lw_Ns cX6_rival RX6 16 0 2 := ⟨70, cf_0.1, cf_0.2.1, cf_0.2.2.1, cf_0.2.2.2, Or.inr ⟨0, 1, TX0, 5, rfl, rfl, rfl, (by decide +kernel), wt_331, wt_332, wt_330, by decide +kernel⟩⟩
theorem t_48_19 : am_ok lw_Ts cX6_rival 4 RX6 19 (o_if 27 22 q_eq) := so_if_eq (off := 8) (by decide +kernel) rfl
theorem t_48_22 : am_ok lw_Ts cX6_rival 4 RX6 22 (o_il 23 1) := so_il (Or.inl ⟨1, rfl, rfl, rfl⟩) (by decide +kernel)
theorem t_48_23 : am_ok lw_Ts cX6_rival 4 RX6 23 (o_il 24 2) := so_il (Or.inl ⟨2, rfl, rfl, rfl⟩) (by decide +kernel)
theorem t_48_24 : am_ok lw_Ts cX6_rival 4 RX6 24 (o_ic 29 27 r_ne) := so_ic_ne (off := 5) (by decide +kernel) rfl
theorem t_48_27 : am_ok lw_Ts cX6_rival 4 RX6 27 (o_k 28 (vI (0))) := so_k (by decide +kernel)
theorem t_48_28 : am_okr cX6_rival 28 2 := (show decode cX6_rival 28 = .ok (.ireturn, 1) by decide +kernel)
theorem t_48_29 : am_ok lw_Ts cX6_rival 4 RX6 29 (o_al 30 0) := so_al (Or.inl ⟨0, rfl, rfl, rfl⟩) (by decide +kernel)
theorem t_48_30 : am_ok lw_Ts cX6_rival 4 RX6 30 (o_gf 33 6 1) := so_gf cl_X6 (by decide) wt_289 (by decide +kernel)
theorem t_48_33 : am_ok lw_Ts cX6_rival 4 RX6 33 (o_gf 36 0 1) := so_gf cl_X0 (by decide) wt_105 (by decide +kernel)
theorem t_48_36 : am_ok lw_Ts cX6_rival 4 RX6 36 (o_il 37 1) := so_il (Or.inl ⟨1, rfl, rfl, rfl⟩) (by decide +kernel)
theorem t_48_37 : am_ok lw_Ts cX6_rival 4 RX6 37 (o_al 38 0) := so_al (Or.inl ⟨0, rfl, rfl, rfl⟩) (by decide +kernel)
theorem t_48_38 : am_ok lw_Ts cX6_rival 4 RX6 38 (o_gf 41 6 1) := so_gf cl_X6 (by decide) wt_289 (by decide +kernel)
theorem t_48_41 : am_ok lw_Ts cX6_rival 4 RX6 41 (o_gf 44 0 1) := so_gf cl_X0 (by decide) wt_105 (by decide +kernel)
theorem t_48_44 : am_ok lw_Ts cX6_rival 4 RX6 44 (o_il 45 1) := so_il (Or.inl ⟨1, rfl, rfl, rfl⟩) (by decide +kernel)
theorem t_48_45 : am_ok lw_Ts cX6_rival 4 RX6 45 (o_ia 46) := so_ia (by decide +kernel)
theorem t_48_46 : am_ok lw_Ts cX6_rival 4 RX6 46 (o_il 47 2) := so_il (Or.inl ⟨2, rfl, rfl, rfl⟩) (by decide +kernel)
theorem t_48_47 : am_ok lw_Ts cX6_rival 4 RX6 47 (o_il 48 3) := so_il (Or.inl ⟨3, rfl, rfl, rfl⟩) (by decide +kernel)
theorem t_48_48 : am_okc gm_mi gm_mt lw_Ts lw_Ns cX6_rival RX6 48 68 3 := ⟨83, cf_68.1, cf_68.2.1, cf_68.2.2.1, cf_68.2.2.2, Or.inl ⟨rfl, (by decide +kernel), wt_345, by decide +kernel, (Or.inl wt_344)⟩⟩
theorem t_48_51 : am_ok lw_Ts cX6_rival 4 RX6 51 (o_iw 52) := so_iw (by decide +kernel)
theorem t_48_52 : am_ok lw_Ts cX6_rival 4 RX6 52 (o_al 53 0) := so_al (Or.inl ⟨0, rfl, rfl, rfl⟩) (by decide +kernel)
theorem t_48_53 : am_ok lw_Ts cX6_rival 4 RX6 53 (o_gf 56 6 1) := so_gf cl_X6 (by decide) wt_289 (by decide +kernel)
theorem t_48_56 : am_ok lw_Ts cX6_rival 4 RX6 56 (o_gf 59 0 1) := so_gf cl_X0 (by decide) wt_105 (by decide +kernel)
theorem t_48_59 : am_ok lw_Ts cX6_rival 4 RX6 59 (o_il 60 2) := so_il (Or.inl ⟨2, rfl, rfl, rfl⟩) (by decide +kernel)
theorem t_48_60 : am_ok lw_Ts cX6_rival 4 RX6 60 (o_al 61 0) := so_al (Or.inl ⟨0, rfl, rfl, rfl⟩) (by decide +kernel)
theorem t_48_61 : am_ok lw_Ts cX6_rival 4 RX6 61 (o_gf 64 6 1) := so_gf cl_X6 (by decide) wt_289 (by decide +kernel)
theorem t_48_64 : am_ok lw_Ts cX6_rival 4 RX6 64 (o_gf 67 0 1) := so_gf cl_X0 (by decide) wt_105 (by decide +kernel)
theorem t_48_67 : am_ok lw_Ts cX6_rival 4 RX6 67 (o_il 68 2) := so_il (Or.inl ⟨2, rfl, rfl, rfl⟩) (by decide +kernel)
theorem t_48_68 : am_ok lw_Ts cX6_rival 4 RX6 68 (o_ia 69) := so_ia (by decide +kernel)
theorem t_48_69 : am_ok lw_Ts cX6_rival 4 RX6 69 (o_il 70 1) := so_il (Or.inl ⟨1, rfl, rfl, rfl⟩) (by decide +kernel)
theorem t_48_70 : am_ok lw_Ts cX6_rival 4 RX6 70 (o_il 71 3) := so_il (Or.inl ⟨3, rfl, rfl, rfl⟩) (by decide +kernel)
theorem t_48_71 : am_okc gm_mi gm_mt lw_Ts lw_Ns cX6_rival RX6 71 68 3 := ⟨83, cf_68.1, cf_68.2.1, cf_68.2.2.1, cf_68.2.2.2, Or.inl ⟨rfl, (by decide +kernel), wt_345, by decide +kernel, (Or.inl wt_344)⟩⟩
theorem t_48_74 : am_ok lw_Ts cX6_rival 4 RX6 74 (o_iw 75) := so_iw (by decide +kernel)
theorem t_48_75 : am_ok lw_Ts cX6_rival 4 RX6 75 (o_k 76 (vI (1))) := so_k (by decide +kernel)
theorem t_48_76 : am_okr cX6_rival 76 2 := (show decode cX6_rival 76 = .ok (.ireturn, 1) by decide +kernel)
set_option maxRecDepth 20000 in
theorem ok_48 : am_okL gm_mi gm_mt lw_Ts lw_Ns 48 cd_48 := ⟨t_48_0, t_48_1, t_48_4, t_48_5, t_48_8, t_48_11, t_48_12, t_48_15, t_48_16, t_48_19, t_48_22, t_48_23, t_48_24, t_48_27, t_48_28, t_48_29, t_48_30, t_48_33, t_48_36, t_48_37, t_48_38, t_48_41, t_48_44, t_48_45, t_48_46, t_48_47, t_48_48, t_48_51, t_48_52, t_48_53, t_48_56, t_48_59, t_48_60, t_48_61, t_48_64, t_48_67, t_48_68, t_48_69, t_48_70, t_48_71, t_48_74, t_48_75, t_48_76, trivial⟩
theorem t_49_0 : am_ok lw_Ts cX6_ill 3 RX6 0 (o_al 1 0) := so_al (Or.inl ⟨0, rfl, rfl, rfl⟩) (by decide +kernel)
theorem t_49_1 : am_ok lw_Ts cX6_ill 3 RX6 1 (o_gf 4 6 1) := so_gf cl_X6 (by decide) wt_289 (by decide +kernel)
theorem t_49_4 : am_ok lw_Ts cX6_ill 3 RX6 4 (o_il 5 1) := so_il (Or.inl ⟨1, rfl, rfl, rfl⟩) (by decide +kernel)
theorem t_49_5 : am_okc gm_mi gm_mt lw_Ts lw_Ns cX6_ill RX6 5 0 2 := ⟨70, cf_0.1, cf_0.2.1, cf_0.2.2.1, cf_0.2.2.2, Or.inr ⟨0, 1, TX0, 5, rfl, rfl, rfl, (by decide +kernel), wt_331, wt_332, wt_330, by decide +kernel⟩⟩
theorem t_49_8 : am_ok lw_Ts cX6_ill 3 RX6 8 (o_if 13 11 q_ne) := so_if_ne (off := 5) (by decide +kernel) rfl
theorem t_49_11 : am_ok lw_Ts cX6_ill 3 RX6 11 (o_k 12 (vI (0))) := so_k (by decide +kernel)
theorem t_49_12 : am_okr cX6_ill 12 2 := (show decode cX6_ill 12 = .ok (.ireturn, 1) by decide +kernel)
theorem t_49_13 : am_ok lw_Ts cX6_ill 3 RX6 13 (o_al 14 0) := so_al (Or.inl ⟨0, rfl, rfl, rfl⟩) (by decide +kernel)
theorem t_49_14 : am_ok lw_Ts cX6_ill 3 RX6 14 (o_gf 17 6 1) := so_gf cl_X6 (by decide) wt_289 (by decide +kernel)
theorem t_49_17 : am_ok lw_Ts cX6_ill 3 RX6 17 (o_al 18 0) := so_al (Or.inl ⟨0, rfl, rfl, rfl⟩) (by decide +kernel)
theorem t_49_18 : am_ok lw_Ts cX6_ill 3 RX6 18 (o_gf 21 6 1) := so_gf cl_X6 (by decide) wt_289 (by decide +kernel)
theorem t_49_21 : am_ok lw_Ts cX6_ill 3 RX6 21 (o_gf 24 0 3) := so_gf cl_X0 (by decide) wt_114 (by decide +kernel)
theorem t_49_24 : am_ok lw_Ts cX6_ill 3 RX6 24 (o_il 25 1) := so_il (Or.inl ⟨1, rfl, rfl, rfl⟩) (by decide +kernel)
theorem t_49_25 : am_ok lw_Ts cX6_ill 3 RX6 25 (o_il 26 2) := so_il (Or.inl ⟨2, rfl, rfl, rfl⟩) (by decide +kernel)
theorem t_49_26 : am_okc gm_mi gm_mt lw_Ts lw_Ns cX6_ill RX6 26 68 3 := ⟨83, cf_68.1, cf_68.2.1, cf_68.2.2.1, cf_68.2.2.2, Or.inl ⟨rfl, (by decide +kernel), wt_345, by decide +kernel, (Or.inl wt_344)⟩⟩
theorem t_49_29 : am_ok lw_Ts cX6_ill 3 RX6 29 (o_pf 32 0 3) := so_pf cl_X0 tyX0_ok nmX0 (by decide) rfl rfl wt_114 (by decide +kernel)
theorem t_49_32 : am_ok lw_Ts cX6_ill 3 RX6 32 (o_k 33 (vI (1))) := so_k (by decide +kernel)
theorem t_49_33 : am_okr cX6_ill 33 2 := (show decode cX6_ill 33 = .ok (.ireturn, 1) by decide +kernel)
set_option maxRecDepth 20000 in
theorem ok_49 : am_okL gm_mi gm_mt lw_Ts lw_Ns 49 cd_49 := ⟨t_49_0, t_49_1, t_49_4, t_49_5, t_49_8, t_49_11, t_49_12, t_49_13, t_49_14, t_49_17, t_49_18, t_49_21, t_49_24, t_49_25, t_49_26, t_49_29, t_49_32, t_49_33, trivial⟩
theorem t_50_0 : am_ok lw_Ts cX6_set 4 RX6 0 (o_k 1 (vI (-1))) := so_k (by decide +kernel)
theorem t_50_1 : am_ok lw_Ts cX6_set 4 RX6 1 (o_is 2 3) := so_is (Or.inl ⟨3, rfl, rfl, rfl⟩) (by decide +kernel)
theorem t_50_2 : am_ok lw_Ts cX6_set 4 RX6 2 (o_il 3 1) := so_il (Or.inl ⟨1, rfl, rfl, rfl⟩) (by decide +kernel)
theorem t_50_3 : am_ok lw_Ts cX6_set 4 RX6 3 (o_if 35 6 q_ne) := so_if_ne (off := 32) (by decide +kernel) rfl
theorem t_50_6 : am_ok lw_Ts cX6_set 4 RX6 6 (o_il 7 2) := so_il (Or.inl ⟨2, rfl, rfl, rfl⟩) (by decide +kernel)
theorem t_50_7 : am_ok lw_Ts cX6_set 4 RX6 7 (o_k 8 (vI (0))) := so_k (by decide +kernel)
theorem t_50_8 : am_ok lw_Ts cX6_set 4 RX6 8 (o_k 10 (vI (12))) := so_bp rfl (by decide +kernel)
theorem t_50_10 : am_okc gm_mi gm_mt lw_Ts lw_Ns cX6_set RX6 10 66 3 := ⟨59, cf_66.1, cf_66.2.1, cf_66.2.2.1, cf_66.2.2.2, Or.inl ⟨rfl, (by decide +kernel), wt_312, by decide +kernel, (Or.inl wt_311)⟩⟩
theorem t_50_13 : am_ok lw_Ts cX6_set 4 RX6 13 (o_if 35 16 q_eq) := so_if_eq (off := 22) (by decide +kernel) rfl
theorem t_50_16 : am_ok lw_Ts cX6_set 4 RX6 16 (o_al 17 0) := so_al (Or.inl ⟨0, rfl, rfl, rfl⟩) (by decide +kernel)
theorem t_50_17 : am_ok lw_Ts cX6_set 4 RX6 17 (o_gf 20 6 0) := so_gf cl_X6 (by decide) wt_288 (by decide +kernel)
theorem t_50_20 : am_ok lw_Ts cX6_set 4 RX6 20 (o_gf 23 2 3) := so_gf cl_X2 (by decide) wt_81 (by decide +kernel)
theorem t_50_23 : am_ok lw_Ts cX6_set 4 RX6 23 (o_is 24 3) := so_is (Or.inl ⟨3, rfl, rfl, rfl⟩) (by decide +kernel)
theorem t_50_24 : am_ok lw_Ts cX6_set 4 RX6 24 (o_al 25 0) := so_al (Or.inl ⟨0, rfl, rfl, rfl⟩) (by decide +kernel)
theorem t_50_25 : am_ok lw_Ts cX6_set 4 RX6 25 (o_gf 28 6 0) := so_gf cl_X6 (by decide) wt_288 (by decide +kernel)
theorem t_50_28 : am_ok lw_Ts cX6_set 4 RX6 28 (o_il 29 2) := so_il (Or.inl ⟨2, rfl, rfl, rfl⟩) (by decide +kernel)
theorem t_50_29 : am_ok lw_Ts cX6_set 4 RX6 29 (o_pf 32 2 3) := so_pf cl_X2 tyX2_ok nmX2 (by decide) rfl rfl wt_81 (by decide +kernel)
theorem t_50_32 : am_ok lw_Ts cX6_set 4 RX6 32 (o_go 66) := so_go (off := 34) (by decide +kernel) rfl
theorem t_50_35 : am_ok lw_Ts cX6_set 4 RX6 35 (o_il 36 1) := so_il (Or.inl ⟨1, rfl, rfl, rfl⟩) (by decide +kernel)
theorem t_50_36 : am_ok lw_Ts cX6_set 4 RX6 36 (o_k 37 (vI (1))) := so_k (by decide +kernel)
theorem t_50_37 : am_ok lw_Ts cX6_set 4 RX6 37 (o_ic 66 40 r_ne) := so_ic_ne (off := 29) (by decide +kernel) rfl
theorem t_50_40 : am_ok lw_Ts cX6_set 4 RX6 40 (o_il 41 2) := so_il (Or.inl ⟨2, rfl, rfl, rfl⟩) (by decide +kernel)
theorem t_50_41 : am_ok lw_Ts cX6_set 4 RX6 41 (o_k 42 (vI (0))) := so_k (by decide +kernel)
theorem t_50_42 : am_ok lw_Ts cX6_set 4 RX6 42 (o_k 44 (vI (30))) := so_bp rfl (by decide +kernel)
theorem t_50_44 : am_okc gm_mi gm_mt lw_Ts lw_Ns cX6_set RX6 44 66 3 := ⟨59, cf_66.1, cf_66.2.1, cf_66.2.2.1, cf_66.2.2.2, Or.inl ⟨rfl, (by decide +kernel), wt_312, by decide +kernel, (Or.inl wt_311)⟩⟩
theorem t_50_47 : am_ok lw_Ts cX6_set 4 RX6 47 (o_if 66 50 q_eq) := so_if_eq (off := 19) (by decide +kernel) rfl
theorem t_50_50 : am_ok lw_Ts cX6_set 4 RX6 50 (o_al 51 0) := so_al (Or.inl ⟨0, rfl, rfl, rfl⟩) (by decide +kernel)
theorem t_50_51 : am_ok lw_Ts cX6_set 4 RX6 51 (o_gf 54 6 4) := so_gf cl_X6 (by decide) wt_292 (by decide +kernel)
theorem t_50_54 : am_ok lw_Ts cX6_set 4 RX6 54 (o_gf 57 3 10) := so_gf cl_X3 (by decide) wt_236 (by decide +kernel)
theorem t_50_57 : am_ok lw_Ts cX6_set 4 RX6 57 (o_is 58 3) := so_is (Or.inl ⟨3, rfl, rfl, rfl⟩) (by decide +kernel)
theorem t_50_58 : am_ok lw_Ts cX6_set 4 RX6 58 (o_al 59 0) := so_al (Or.inl ⟨0, rfl, rfl, rfl⟩) (by decide +kernel)
theorem t_50_59 : am_ok lw_Ts cX6_set 4 RX6 59 (o_gf 62 6 4) := so_gf cl_X6 (by decide) wt_292 (by decide +kernel)
theorem t_50_62 : am_ok lw_Ts cX6_set 4 RX6 62 (o_il 63 2) := so_il (Or.inl ⟨2, rfl, rfl, rfl⟩) (by decide +kernel)
theorem t_50_63 : am_ok lw_Ts cX6_set 4 RX6 63 (o_pf 66 3 10) := so_pf cl_X3 tyX3_ok nmX3 (by decide) rfl rfl wt_236 (by decide +kernel)
theorem t_50_66 : am_ok lw_Ts cX6_set 4 RX6 66 (o_il 67 3) := so_il (Or.inl ⟨3, rfl, rfl, rfl⟩) (by decide +kernel)
theorem t_50_67 : am_okr cX6_set 67 1 := (show decode cX6_set 67 = .ok (.ireturn, 1) by decide +kernel)
set_option maxRecDepth 20000 in
theorem ok_50 : am_okL gm_mi gm_mt lw_Ts lw_Ns 50 cd_50 := ⟨t_50_0, t_50_1, t_50_2, t_50_3, t_50_6, t_50_7, t_50_8, t_50_10, t_50_13, t_50_16, t_50_17, t_50_20, t_50_23, t_50_24, t_50_25, t_50_28, t_50_29, t_50_32, t_50_35, t_50_36, t_50_37, t_50_40, t_50_41, t_50_42, t_50_44, t_50_47, t_50_50, t_50_51, t_50_54, t_50_57, t_50_58, t_50_59, t_50_62, t_50_63, t_50_66, t_50_67, trivial⟩
theorem t_51_0 : am_ok lw_Ts cX6_season 3 RX6 0 (o_il 1 1) := so_il (Or.inl ⟨1, rfl, rfl, rfl⟩) (by decide +kernel)
theorem t_51_1 : am_ok lw_Ts cX6_season 3 RX6 1 (o_k 2 (vI (1))) := so_k (by decide +kernel)
theorem t_51_2 : am_ok lw_Ts cX6_season 3 RX6 2 (o_k 3 (vI (3))) := so_k (by decide +kernel)
theorem t_51_3 : am_okc gm_mi gm_mt lw_Ts lw_Ns cX6_season RX6 3 66 3 := ⟨59, cf_66.1, cf_66.2.1, cf_66.2.2.1, cf_66.2.2.2, Or.inl ⟨rfl, (by decide +kernel), wt_312, by decide +kernel, (Or.inl wt_311)⟩⟩
theorem t_51_6 : am_ok lw_Ts cX6_season 3 RX6 6 (o_if 26 9 q_eq) := so_if_eq (off := 20) (by decide +kernel) rfl
theorem t_51_9 : am_ok lw_Ts cX6_season 3 RX6 9 (o_il 10 2) := so_il (Or.inl ⟨2, rfl, rfl, rfl⟩) (by decide +kernel)
theorem t_51_10 : am_ok lw_Ts cX6_season 3 RX6 10 (o_k 11 (vI (1))) := so_k (by decide +kernel)
theorem t_51_11 : am_ok lw_Ts cX6_season 3 RX6 11 (o_k 12 (vI (3))) := so_k (by decide +kernel)
theorem t_51_12 : am_okc gm_mi gm_mt lw_Ts lw_Ns cX6_season RX6 12 66 3 := ⟨59, cf_66.1, cf_66.2.1, cf_66.2.2.1, cf_66.2.2.2, Or.inl ⟨rfl, (by decide +kernel), wt_312, by decide +kernel, (Or.inl wt_311)⟩⟩
theorem t_51_15 : am_ok lw_Ts cX6_season 3 RX6 15 (o_if 26 18 q_eq) := so_if_eq (off := 11) (by decide +kernel) rfl
theorem t_51_18 : am_ok lw_Ts cX6_season 3 RX6 18 (o_il 19 1) := so_il (Or.inl ⟨1, rfl, rfl, rfl⟩) (by decide +kernel)
theorem t_51_19 : am_ok lw_Ts cX6_season 3 RX6 19 (o_il 20 2) := so_il (Or.inl ⟨2, rfl, rfl, rfl⟩) (by decide +kernel)
theorem t_51_20 : am_ok lw_Ts cX6_season 3 RX6 20 (o_ib 21 f_mul) := so_imul (by decide +kernel)
theorem t_51_21 : am_ok lw_Ts cX6_season 3 RX6 21 (o_k 23 (vI (6))) := so_bp rfl (by decide +kernel)
theorem t_51_23 : am_ok lw_Ts cX6_season 3 RX6 23 (o_ic 28 26 r_le) := so_ic_le (off := 5) (by decide +kernel) rfl
theorem t_51_26 : am_ok lw_Ts cX6_season 3 RX6 26 (o_k 27 (vI (0))) := so_k (by decide +kernel)
theorem t_51_27 : am_okr cX6_season 27 2 := (show decode cX6_season 27 = .ok (.ireturn, 1) by decide +kernel)
theorem t_51_28 : am_ok lw_Ts cX6_season 3 RX6 28 (o_al 29 0) := so_al (Or.inl ⟨0, rfl, rfl, rfl⟩) (by decide +kernel)
theorem t_51_29 : am_ok lw_Ts cX6_season 3 RX6 29 (o_gf 32 6 2) := so_gf cl_X6 (by decide) wt_290 (by decide +kernel)
theorem t_51_32 : am_ok lw_Ts cX6_season 3 RX6 32 (o_il 33 1) := so_il (Or.inl ⟨1, rfl, rfl, rfl⟩) (by decide +kernel)
theorem t_51_33 : am_ok lw_Ts cX6_season 3 RX6 33 (o_il 34 2) := so_il (Or.inl ⟨2, rfl, rfl, rfl⟩) (by decide +kernel)
theorem t_51_34 : am_okc gm_mi gm_mt lw_Ts lw_Ns cX6_season RX6 34 32 3 := ⟨97, cf_32.1, cf_32.2.1, cf_32.2.2.1, cf_32.2.2.2, Or.inr ⟨5, 2, TX5, 7, rfl, rfl, rfl, (by decide +kernel), wt_138, wt_139, wt_359, by decide +kernel⟩⟩
theorem t_51_37 : am_ok lw_Ts cX6_season 3 RX6 37 (o_k 38 (vI (1))) := so_k (by decide +kernel)
theorem t_51_38 : am_okr cX6_season 38 2 := (show decode cX6_season 38 = .ok (.ireturn, 1) by decide +kernel)
set_option maxRecDepth 20000 in
theorem ok_51 : am_okL gm_mi gm_mt lw_Ts lw_Ns 51 cd_51 := ⟨t_51_0, t_51_1, t_51_2, t_51_3, t_51_6, t_51_9, t_51_10, t_51_11, t_51_12, t_51_15, t_51_18, t_51_19, t_51_20, t_51_21, t_51_23, t_51_26, t_51_27, t_51_28, t_51_29, t_51_32, t_51_33, t_51_34, t_51_37, t_51_38, trivial⟩
theorem t_52_0 : am_ok lw_Ts cX6_near 3 RX6 0 (o_al 1 0) := so_al (Or.inl ⟨0, rfl, rfl, rfl⟩) (by decide +kernel)
theorem t_52_1 : am_ok lw_Ts cX6_near 3 RX6 1 (o_gf 4 6 0) := so_gf cl_X6 (by decide) wt_288 (by decide +kernel)
theorem t_52_4 : am_ok lw_Ts cX6_near 3 RX6 4 (o_il 5 1) := so_il (Or.inl ⟨1, rfl, rfl, rfl⟩) (by decide +kernel)
theorem t_52_5 : am_okc gm_mi gm_mt lw_Ts lw_Ns cX6_near RX6 5 8 2 := ⟨74, cf_8.1, cf_8.2.1, cf_8.2.2.1, cf_8.2.2.2, Or.inr ⟨2, 1, TX2, 4, rfl, rfl, rfl, (by decide +kernel), wt_336, wt_337, wt_335, by decide +kernel⟩⟩
theorem t_52_8 : am_ok lw_Ts cX6_near 3 RX6 8 (o_if 34 11 q_eq) := so_if_eq (off := 26) (by decide +kernel) rfl
theorem t_52_11 : am_ok lw_Ts cX6_near 3 RX6 11 (o_al 12 0) := so_al (Or.inl ⟨0, rfl, rfl, rfl⟩) (by decide +kernel)
theorem t_52_12 : am_ok lw_Ts cX6_near 3 RX6 12 (o_gf 15 6 0) := so_gf cl_X6 (by decide) wt_288 (by decide +kernel)
theorem t_52_15 : am_ok lw_Ts cX6_near 3 RX6 15 (o_il 16 2) := so_il (Or.inl ⟨2, rfl, rfl, rfl⟩) (by decide +kernel)
theorem t_52_16 : am_okc gm_mi gm_mt lw_Ts lw_Ns cX6_near RX6 16 8 2 := ⟨74, cf_8.1, cf_8.2.1, cf_8.2.2.1, cf_8.2.2.2, Or.inr ⟨2, 1, TX2, 4, rfl, rfl, rfl, (by decide +kernel), wt_336, wt_337, wt_335, by decide +kernel⟩⟩
theorem t_52_19 : am_ok lw_Ts cX6_near 3 RX6 19 (o_if 34 22 q_eq) := so_if_eq (off := 15) (by decide +kernel) rfl
theorem t_52_22 : am_ok lw_Ts cX6_near 3 RX6 22 (o_al 23 0) := so_al (Or.inl ⟨0, rfl, rfl, rfl⟩) (by decide +kernel)
theorem t_52_23 : am_ok lw_Ts cX6_near 3 RX6 23 (o_gf 26 6 0) := so_gf cl_X6 (by decide) wt_288 (by decide +kernel)
theorem t_52_26 : am_ok lw_Ts cX6_near 3 RX6 26 (o_il 27 1) := so_il (Or.inl ⟨1, rfl, rfl, rfl⟩) (by decide +kernel)
theorem t_52_27 : am_ok lw_Ts cX6_near 3 RX6 27 (o_il 28 2) := so_il (Or.inl ⟨2, rfl, rfl, rfl⟩) (by decide +kernel)
theorem t_52_28 : am_okc gm_mi gm_mt lw_Ts lw_Ns cX6_near RX6 28 10 3 := ⟨101, cf_10.1, cf_10.2.1, cf_10.2.2.1, cf_10.2.2.2, Or.inr ⟨2, 2, TX2, 4, rfl, rfl, rfl, (by decide +kernel), wt_365, wt_366, wt_364, by decide +kernel⟩⟩
theorem t_52_31 : am_ok lw_Ts cX6_near 3 RX6 31 (o_go 35) := so_go (off := 4) (by decide +kernel) rfl
theorem t_52_34 : am_ok lw_Ts cX6_near 3 RX6 34 (o_k 35 (vI (-1))) := so_k (by decide +kernel)
theorem t_52_35 : am_okr cX6_near 35 1 := (show decode cX6_near 35 = .ok (.ireturn, 1) by decide +kernel)
set_option maxRecDepth 20000 in
theorem ok_52 : am_okL gm_mi gm_mt lw_Ts lw_Ns 52 cd_52 := ⟨t_52_0, t_52_1, t_52_4, t_52_5, t_52_8, t_52_11, t_52_12, t_52_15, t_52_16, t_52_19, t_52_22, t_52_23, t_52_26, t_52_27, t_52_28, t_52_31, t_52_34, t_52_35, trivial⟩
theorem t_53_0 : am_ok lw_Ts cX6_count 2 RX6 0 (o_il 1 1) := so_il (Or.inl ⟨1, rfl, rfl, rfl⟩) (by decide +kernel)
theorem t_53_1 : am_ok lw_Ts cX6_count 2 RX6 1 (o_sw (f_sw 1 99 0 6 #[43, 51, 59, 67, 75, 83, 91])) := so_sw (len := 43) (by decide +kernel) (by decide) (by decide) (by decide)
theorem t_53_44 : am_ok lw_Ts cX6_count 2 RX6 44 (o_al 45 0) := so_al (Or.inl ⟨0, rfl, rfl, rfl⟩) (by decide +kernel)
theorem t_53_45 : am_ok lw_Ts cX6_count 2 RX6 45 (o_gf 48 6 0) := so_gf cl_X6 (by decide) wt_288 (by decide +kernel)
theorem t_53_48 : am_ok lw_Ts cX6_count 2 RX6 48 (o_gf 51 2 2) := so_gf cl_X2 (by decide) wt_79 (by decide +kernel)
theorem t_53_51 : am_okr cX6_count 51 1 := (show decode cX6_count 51 = .ok (.ireturn, 1) by decide +kernel)
theorem t_53_52 : am_ok lw_Ts cX6_count 2 RX6 52 (o_al 53 0) := so_al (Or.inl ⟨0, rfl, rfl, rfl⟩) (by decide +kernel)
theorem t_53_53 : am_ok lw_Ts cX6_count 2 RX6 53 (o_gf 56 6 1) := so_gf cl_X6 (by decide) wt_289 (by decide +kernel)
theorem t_53_56 : am_ok lw_Ts cX6_count 2 RX6 56 (o_gf 59 0 4) := so_gf cl_X0 (by decide) wt_119 (by decide +kernel)
theorem t_53_59 : am_okr cX6_count 59 1 := (show decode cX6_count 59 = .ok (.ireturn, 1) by decide +kernel)
theorem t_53_60 : am_ok lw_Ts cX6_count 2 RX6 60 (o_al 61 0) := so_al (Or.inl ⟨0, rfl, rfl, rfl⟩) (by decide +kernel)
theorem t_53_61 : am_ok lw_Ts cX6_count 2 RX6 61 (o_gf 64 6 2) := so_gf cl_X6 (by decide) wt_290 (by decide +kernel)
theorem t_53_64 : am_ok lw_Ts cX6_count 2 RX6 64 (o_gf 67 5 6) := so_gf cl_X5 (by decide) wt_156 (by decide +kernel)
theorem t_53_67 : am_okr cX6_count 67 1 := (show decode cX6_count 67 = .ok (.ireturn, 1) by decide +kernel)
theorem t_53_68 : am_ok lw_Ts cX6_count 2 RX6 68 (o_al 69 0) := so_al (Or.inl ⟨0, rfl, rfl, rfl⟩) (by decide +kernel)
theorem t_53_69 : am_ok lw_Ts cX6_count 2 RX6 69 (o_gf 72 6 2) := so_gf cl_X6 (by decide) wt_290 (by decide +kernel)
theorem t_53_72 : am_okc gm_mi gm_mt lw_Ts lw_Ns cX6_count RX6 72 37 1 := ⟨111, cf_37.1, cf_37.2.1, cf_37.2.2.1, cf_37.2.2.2, Or.inr ⟨5, 0, TX5, 7, rfl, rfl, rfl, (by decide +kernel), wt_379, wt_380, wt_378, by decide +kernel⟩⟩
theorem t_53_75 : am_okr cX6_count 75 1 := (show decode cX6_count 75 = .ok (.ireturn, 1) by decide +kernel)
theorem t_53_76 : am_ok lw_Ts cX6_count 2 RX6 76 (o_al 77 0) := so_al (Or.inl ⟨0, rfl, rfl, rfl⟩) (by decide +kernel)
theorem t_53_77 : am_ok lw_Ts cX6_count 2 RX6 77 (o_gf 80 6 2) := so_gf cl_X6 (by decide) wt_290 (by decide +kernel)
theorem t_53_80 : am_okc gm_mi gm_mt lw_Ts lw_Ns cX6_count RX6 80 38 1 := ⟨115, cf_38.1, cf_38.2.1, cf_38.2.2.1, cf_38.2.2.2, Or.inr ⟨5, 0, TX5, 7, rfl, rfl, rfl, (by decide +kernel), wt_387, wt_388, wt_386, by decide +kernel⟩⟩
theorem t_53_83 : am_okr cX6_count 83 1 := (show decode cX6_count 83 = .ok (.ireturn, 1) by decide +kernel)
theorem t_53_84 : am_ok lw_Ts cX6_count 2 RX6 84 (o_al 85 0) := so_al (Or.inl ⟨0, rfl, rfl, rfl⟩) (by decide +kernel)
theorem t_53_85 : am_ok lw_Ts cX6_count 2 RX6 85 (o_gf 88 6 4) := so_gf cl_X6 (by decide) wt_292 (by decide +kernel)
theorem t_53_88 : am_ok lw_Ts cX6_count 2 RX6 88 (o_gf 91 3 9) := so_gf cl_X3 (by decide) wt_234 (by decide +kernel)
theorem t_53_91 : am_okr cX6_count 91 1 := (show decode cX6_count 91 = .ok (.ireturn, 1) by decide +kernel)
theorem t_53_92 : am_ok lw_Ts cX6_count 2 RX6 92 (o_al 93 0) := so_al (Or.inl ⟨0, rfl, rfl, rfl⟩) (by decide +kernel)
theorem t_53_93 : am_ok lw_Ts cX6_count 2 RX6 93 (o_gf 96 6 4) := so_gf cl_X6 (by decide) wt_292 (by decide +kernel)
theorem t_53_96 : am_ok lw_Ts cX6_count 2 RX6 96 (o_gf 99 3 11) := so_gf cl_X3 (by decide) wt_238 (by decide +kernel)
theorem t_53_99 : am_okr cX6_count 99 1 := (show decode cX6_count 99 = .ok (.ireturn, 1) by decide +kernel)
theorem t_53_100 : am_ok lw_Ts cX6_count 2 RX6 100 (o_k 101 (vI (-1))) := so_k (by decide +kernel)
theorem t_53_101 : am_okr cX6_count 101 1 := (show decode cX6_count 101 = .ok (.ireturn, 1) by decide +kernel)
set_option maxRecDepth 20000 in
theorem ok_53 : am_okL gm_mi gm_mt lw_Ts lw_Ns 53 cd_53 := ⟨t_53_0, t_53_1, t_53_44, t_53_45, t_53_48, t_53_51, t_53_52, t_53_53, t_53_56, t_53_59, t_53_60, t_53_61, t_53_64, t_53_67, t_53_68, t_53_69, t_53_72, t_53_75, t_53_76, t_53_77, t_53_80, t_53_83, t_53_84, t_53_85, t_53_88, t_53_91, t_53_92, t_53_93, t_53_96, t_53_99, t_53_100, t_53_101, trivial⟩
theorem t_54_0 : am_ok lw_Ts cX6_put 4 RX6 0 (o_al 1 0) := so_al (Or.inl ⟨0, rfl, rfl, rfl⟩) (by decide +kernel)
theorem t_54_1 : am_ok lw_Ts cX6_put 4 RX6 1 (o_gf 4 6 2) := so_gf cl_X6 (by decide) wt_290 (by decide +kernel)
theorem t_54_4 : am_ok lw_Ts cX6_put 4 RX6 4 (o_il 5 1) := so_il (Or.inl ⟨1, rfl, rfl, rfl⟩) (by decide +kernel)
theorem t_54_5 : am_okc gm_mi gm_mt lw_Ts lw_Ns cX6_put RX6 5 33 2 := ⟨122, cf_33.1, cf_33.2.1, cf_33.2.2.1, cf_33.2.2.2, Or.inr ⟨5, 1, TX5, 7, rfl, rfl, rfl, (by decide +kernel), wt_403, wt_404, wt_402, by decide +kernel⟩⟩
theorem t_54_8 : am_ok lw_Ts cX6_put 4 RX6 8 (o_if 13 11 q_ne) := so_if_ne (off := 5) (by decide +kernel) rfl
theorem t_54_11 : am_ok lw_Ts cX6_put 4 RX6 11 (o_k 12 (vI (0))) := so_k (by decide +kernel)
theorem t_54_12 : am_okr cX6_put 12 2 := (show decode cX6_put 12 = .ok (.ireturn, 1) by decide +kernel)
theorem t_54_13 : am_ok lw_Ts cX6_put 4 RX6 13 (o_il 14 2) := so_il (Or.inl ⟨2, rfl, rfl, rfl⟩) (by decide +kernel)
theorem t_54_14 : am_ok lw_Ts cX6_put 4 RX6 14 (o_k 15 (vI (-1))) := so_k (by decide +kernel)
theorem t_54_15 : am_ok lw_Ts cX6_put 4 RX6 15 (o_ic 31 18 r_ne) := so_ic_ne (off := 16) (by decide +kernel) rfl
theorem t_54_18 : am_ok lw_Ts cX6_put 4 RX6 18 (o_al 19 0) := so_al (Or.inl ⟨0, rfl, rfl, rfl⟩) (by decide +kernel)
theorem t_54_19 : am_ok lw_Ts cX6_put 4 RX6 19 (o_gf 22 6 2) := so_gf cl_X6 (by decide) wt_290 (by decide +kernel)
theorem t_54_22 : am_ok lw_Ts cX6_put 4 RX6 22 (o_gf 25 5 2) := so_gf cl_X5 (by decide) wt_148 (by decide +kernel)
theorem t_54_25 : am_ok lw_Ts cX6_put 4 RX6 25 (o_il 26 1) := so_il (Or.inl ⟨1, rfl, rfl, rfl⟩) (by decide +kernel)
theorem t_54_26 : am_ok lw_Ts cX6_put 4 RX6 26 (o_k 28 (vI (36))) := so_bp rfl (by decide +kernel)
theorem t_54_28 : am_ok lw_Ts cX6_put 4 RX6 28 (o_iw 29) := so_iw (by decide +kernel)
theorem t_54_29 : am_ok lw_Ts cX6_put 4 RX6 29 (o_k 30 (vI (1))) := so_k (by decide +kernel)
theorem t_54_30 : am_okr cX6_put 30 2 := (show decode cX6_put 30 = .ok (.ireturn, 1) by decide +kernel)
theorem t_54_31 : am_ok lw_Ts cX6_put 4 RX6 31 (o_al 32 0) := so_al (Or.inl ⟨0, rfl, rfl, rfl⟩) (by decide +kernel)
theorem t_54_32 : am_ok lw_Ts cX6_put 4 RX6 32 (o_gf 35 6 1) := so_gf cl_X6 (by decide) wt_289 (by decide +kernel)
theorem t_54_35 : am_ok lw_Ts cX6_put 4 RX6 35 (o_il 36 2) := so_il (Or.inl ⟨2, rfl, rfl, rfl⟩) (by decide +kernel)
theorem t_54_36 : am_okc gm_mi gm_mt lw_Ts lw_Ns cX6_put RX6 36 0 2 := ⟨70, cf_0.1, cf_0.2.1, cf_0.2.2.1, cf_0.2.2.2, Or.inr ⟨0, 1, TX0, 5, rfl, rfl, rfl, (by decide +kernel), wt_331, wt_332, wt_330, by decide +kernel⟩⟩
theorem t_54_39 : am_ok lw_Ts cX6_put 4 RX6 39 (o_if 53 42 q_eq) := so_if_eq (off := 14) (by decide +kernel) rfl
theorem t_54_42 : am_ok lw_Ts cX6_put 4 RX6 42 (o_al 43 0) := so_al (Or.inl ⟨0, rfl, rfl, rfl⟩) (by decide +kernel)
theorem t_54_43 : am_ok lw_Ts cX6_put 4 RX6 43 (o_gf 46 6 0) := so_gf cl_X6 (by decide) wt_288 (by decide +kernel)
theorem t_54_46 : am_ok lw_Ts cX6_put 4 RX6 46 (o_il 47 3) := so_il (Or.inl ⟨3, rfl, rfl, rfl⟩) (by decide +kernel)
theorem t_54_47 : am_okc gm_mi gm_mt lw_Ts lw_Ns cX6_put RX6 47 8 2 := ⟨74, cf_8.1, cf_8.2.1, cf_8.2.2.1, cf_8.2.2.2, Or.inr ⟨2, 1, TX2, 4, rfl, rfl, rfl, (by decide +kernel), wt_336, wt_337, wt_335, by decide +kernel⟩⟩
theorem t_54_50 : am_ok lw_Ts cX6_put 4 RX6 50 (o_if 55 53 q_ne) := so_if_ne (off := 5) (by decide +kernel) rfl
theorem t_54_53 : am_ok lw_Ts cX6_put 4 RX6 53 (o_k 54 (vI (0))) := so_k (by decide +kernel)
theorem t_54_54 : am_okr cX6_put 54 2 := (show decode cX6_put 54 = .ok (.ireturn, 1) by decide +kernel)
theorem t_54_55 : am_ok lw_Ts cX6_put 4 RX6 55 (o_al 56 0) := so_al (Or.inl ⟨0, rfl, rfl, rfl⟩) (by decide +kernel)
theorem t_54_56 : am_ok lw_Ts cX6_put 4 RX6 56 (o_gf 59 6 2) := so_gf cl_X6 (by decide) wt_290 (by decide +kernel)
theorem t_54_59 : am_ok lw_Ts cX6_put 4 RX6 59 (o_gf 62 5 2) := so_gf cl_X5 (by decide) wt_148 (by decide +kernel)
theorem t_54_62 : am_ok lw_Ts cX6_put 4 RX6 62 (o_il 63 1) := so_il (Or.inl ⟨1, rfl, rfl, rfl⟩) (by decide +kernel)
theorem t_54_63 : am_ok lw_Ts cX6_put 4 RX6 63 (o_il 64 2) := so_il (Or.inl ⟨2, rfl, rfl, rfl⟩) (by decide +kernel)
theorem t_54_64 : am_ok lw_Ts cX6_put 4 RX6 64 (o_k 66 (vI (6))) := so_bp rfl (by decide +kernel)
theorem t_54_66 : am_ok lw_Ts cX6_put 4 RX6 66 (o_ib 67 f_mul) := so_imul (by decide +kernel)
theorem t_54_67 : am_ok lw_Ts cX6_put 4 RX6 67 (o_il 68 3) := so_il (Or.inl ⟨3, rfl, rfl, rfl⟩) (by decide +kernel)
theorem t_54_68 : am_ok lw_Ts cX6_put 4 RX6 68 (o_ib 69 f_add) := so_iadd (by decide +kernel)
theorem t_54_69 : am_ok lw_Ts cX6_put 4 RX6 69 (o_iw 70) := so_iw (by decide +kernel)
theorem t_54_70 : am_ok lw_Ts cX6_put 4 RX6 70 (o_k 71 (vI (1))) := so_k (by decide +kernel)
theorem t_54_71 : am_okr cX6_put 71 2 := (show decode cX6_put 71 = .ok (.ireturn, 1) by decide +kernel)
set_option maxRecDepth 20000 in
theorem ok_54 : am_okL gm_mi gm_mt lw_Ts lw_Ns 54 cd_54 := ⟨t_54_0, t_54_1, t_54_4, t_54_5, t_54_8, t_54_11, t_54_12, t_54_13, t_54_14, t_54_15, t_54_18, t_54_19, t_54_22, t_54_25, t_54_26, t_54_28, t_54_29, t_54_30, t_54_31, t_54_32, t_54_35, t_54_36, t_54_39, t_54_42, t_54_43, t_54_46, t_54_47, t_54_50, t_54_53, t_54_54, t_54_55, t_54_56, t_54_59, t_54_62, t_54_63, t_54_64, t_54_66, t_54_67, t_54_68, t_54_69, t_54_70, t_54_71, trivial⟩
theorem t_55_0 : am_ok lw_Ts cX6_wrong 1 RX6 0 (o_al 1 0) := so_al (Or.inl ⟨0, rfl, rfl, rfl⟩) (by decide +kernel)
theorem t_55_1 : am_ok lw_Ts cX6_wrong 1 RX6 1 (o_gf 4 6 2) := so_gf cl_X6 (by decide) wt_290 (by decide +kernel)
theorem t_55_4 : am_okc gm_mi gm_mt lw_Ts lw_Ns cX6_wrong RX6 4 39 1 := ⟨143, cf_39.1, cf_39.2.1, cf_39.2.2.1, cf_39.2.2.2, Or.inr ⟨5, 0, TX5, 7, rfl, rfl, rfl, (by decide +kernel), wt_412, wt_413, wt_411, by decide +kernel⟩⟩
theorem t_55_7 : am_okr cX6_wrong 7 1 := (show decode cX6_wrong 7 = .ok (.ireturn, 1) by decide +kernel)
set_option maxRecDepth 20000 in
theorem ok_55 : am_okL gm_mi gm_mt lw_Ts lw_Ns 55 cd_55 := ⟨t_55_0, t_55_1, t_55_4, t_55_7, trivial⟩
theorem t_56_0 : am_ok lw_Ts cX6_best 1 RX6 0 (o_al 1 0) := so_al (Or.inl ⟨0, rfl, rfl, rfl⟩) (by decide +kernel)
theorem t_56_1 : am_ok lw_Ts cX6_best 1 RX6 1 (o_gf 4 6 3) := so_gf cl_X6 (by decide) wt_291 (by decide +kernel)
theorem t_56_4 : am_ok lw_Ts cX6_best 1 RX6 4 (o_k 5 (vI (0))) := so_k (by decide +kernel)
theorem t_56_5 : am_okc gm_mi gm_mt lw_Ts lw_Ns cX6_best RX6 5 23 2 := ⟨146, cf_23.1, cf_23.2.1, cf_23.2.2.1, cf_23.2.2.2, Or.inr ⟨4, 1, TX4, 11, rfl, rfl, rfl, (by decide +kernel), wt_448, wt_449, wt_447, by decide +kernel⟩⟩
theorem t_56_8 : am_ok lw_Ts cX6_best 1 RX6 8 (o_pop 9) := so_pop (by decide +kernel)
theorem t_56_9 : am_ok lw_Ts cX6_best 1 RX6 9 (o_al 10 0) := so_al (Or.inl ⟨0, rfl, rfl, rfl⟩) (by decide +kernel)
theorem t_56_10 : am_ok lw_Ts cX6_best 1 RX6 10 (o_gf 13 6 2) := so_gf cl_X6 (by decide) wt_290 (by decide +kernel)
theorem t_56_13 : am_okc gm_mi gm_mt lw_Ts lw_Ns cX6_best RX6 13 38 1 := ⟨115, cf_38.1, cf_38.2.1, cf_38.2.2.1, cf_38.2.2.2, Or.inr ⟨5, 0, TX5, 7, rfl, rfl, rfl, (by decide +kernel), wt_387, wt_388, wt_386, by decide +kernel⟩⟩
theorem t_56_16 : am_okr cX6_best 16 1 := (show decode cX6_best 16 = .ok (.ireturn, 1) by decide +kernel)
set_option maxRecDepth 20000 in
theorem ok_56 : am_okL gm_mi gm_mt lw_Ts lw_Ns 56 cd_56 := ⟨t_56_0, t_56_1, t_56_4, t_56_5, t_56_8, t_56_9, t_56_10, t_56_13, t_56_16, trivial⟩
theorem t_57_0 : am_ok lw_Ts cX6_mend 1 RX6 0 (o_al 1 0) := so_al (Or.inl ⟨0, rfl, rfl, rfl⟩) (by decide +kernel)
theorem t_57_1 : am_ok lw_Ts cX6_mend 1 RX6 1 (o_gf 4 6 3) := so_gf cl_X6 (by decide) wt_291 (by decide +kernel)
theorem t_57_4 : am_ok lw_Ts cX6_mend 1 RX6 4 (o_k 7 (vI (1000))) := so_sp rfl (by decide +kernel)
theorem t_57_7 : am_okc gm_mi gm_mt lw_Ts lw_Ns cX6_mend RX6 7 23 2 := ⟨146, cf_23.1, cf_23.2.1, cf_23.2.2.1, cf_23.2.2.2, Or.inr ⟨4, 1, TX4, 11, rfl, rfl, rfl, (by decide +kernel), wt_448, wt_449, wt_447, by decide +kernel⟩⟩
theorem t_57_10 : am_okr cX6_mend 10 1 := (show decode cX6_mend 10 = .ok (.ireturn, 1) by decide +kernel)
set_option maxRecDepth 20000 in
theorem ok_57 : am_okL gm_mi gm_mt lw_Ts lw_Ns 57 cd_57 := ⟨t_57_0, t_57_1, t_57_4, t_57_7, t_57_10, trivial⟩
theorem t_58_0 : am_ok lw_Ts cX6_piece 5 RX6 0 (o_al 1 0) := so_al (Or.inl ⟨0, rfl, rfl, rfl⟩) (by decide +kernel)
theorem t_58_1 : am_ok lw_Ts cX6_piece 5 RX6 1 (o_gf 4 6 0) := so_gf cl_X6 (by decide) wt_288 (by decide +kernel)
theorem t_58_4 : am_ok lw_Ts cX6_piece 5 RX6 4 (o_il 5 1) := so_il (Or.inl ⟨1, rfl, rfl, rfl⟩) (by decide +kernel)
theorem t_58_5 : am_okc gm_mi gm_mt lw_Ts lw_Ns cX6_piece RX6 5 8 2 := ⟨74, cf_8.1, cf_8.2.1, cf_8.2.2.1, cf_8.2.2.2, Or.inr ⟨2, 1, TX2, 4, rfl, rfl, rfl, (by decide +kernel), wt_336, wt_337, wt_335, by decide +kernel⟩⟩
theorem t_58_8 : am_ok lw_Ts cX6_piece 5 RX6 8 (o_if 31 11 q_eq) := so_if_eq (off := 23) (by decide +kernel) rfl
theorem t_58_11 : am_ok lw_Ts cX6_piece 5 RX6 11 (o_il 12 2) := so_il (Or.inl ⟨2, rfl, rfl, rfl⟩) (by decide +kernel)
theorem t_58_12 : am_ok lw_Ts cX6_piece 5 RX6 12 (o_k 13 (vI (1))) := so_k (by decide +kernel)
theorem t_58_13 : am_ok lw_Ts cX6_piece 5 RX6 13 (o_k 15 (vI (90))) := so_bp rfl (by decide +kernel)
theorem t_58_15 : am_okc gm_mi gm_mt lw_Ts lw_Ns cX6_piece RX6 15 66 3 := ⟨59, cf_66.1, cf_66.2.1, cf_66.2.2.1, cf_66.2.2.2, Or.inl ⟨rfl, (by decide +kernel), wt_312, by decide +kernel, (Or.inl wt_311)⟩⟩
theorem t_58_18 : am_ok lw_Ts cX6_piece 5 RX6 18 (o_if 31 21 q_eq) := so_if_eq (off := 13) (by decide +kernel) rfl
theorem t_58_21 : am_ok lw_Ts cX6_piece 5 RX6 21 (o_il 22 3) := so_il (Or.inl ⟨3, rfl, rfl, rfl⟩) (by decide +kernel)
theorem t_58_22 : am_ok lw_Ts cX6_piece 5 RX6 22 (o_k 23 (vI (0))) := so_k (by decide +kernel)
theorem t_58_23 : am_ok lw_Ts cX6_piece 5 RX6 23 (o_k 25 (vI (100))) := so_bp rfl (by decide +kernel)
theorem t_58_25 : am_okc gm_mi gm_mt lw_Ts lw_Ns cX6_piece RX6 25 66 3 := ⟨59, cf_66.1, cf_66.2.1, cf_66.2.2.1, cf_66.2.2.2, Or.inl ⟨rfl, (by decide +kernel), wt_312, by decide +kernel, (Or.inl wt_311)⟩⟩
theorem t_58_28 : am_ok lw_Ts cX6_piece 5 RX6 28 (o_if 33 31 q_ne) := so_if_ne (off := 5) (by decide +kernel) rfl
theorem t_58_31 : am_ok lw_Ts cX6_piece 5 RX6 31 (o_k 32 (vI (-1))) := so_k (by decide +kernel)
theorem t_58_32 : am_okr cX6_piece 32 1 := (show decode cX6_piece 32 = .ok (.ireturn, 1) by decide +kernel)
theorem t_58_33 : am_ok lw_Ts cX6_piece 5 RX6 33 (o_al 34 0) := so_al (Or.inl ⟨0, rfl, rfl, rfl⟩) (by decide +kernel)
theorem t_58_34 : am_ok lw_Ts cX6_piece 5 RX6 34 (o_gf 37 6 4) := so_gf cl_X6 (by decide) wt_292 (by decide +kernel)
theorem t_58_37 : am_ok lw_Ts cX6_piece 5 RX6 37 (o_il 38 1) := so_il (Or.inl ⟨1, rfl, rfl, rfl⟩) (by decide +kernel)
theorem t_58_38 : am_ok lw_Ts cX6_piece 5 RX6 38 (o_il 39 2) := so_il (Or.inl ⟨2, rfl, rfl, rfl⟩) (by decide +kernel)
theorem t_58_39 : am_ok lw_Ts cX6_piece 5 RX6 39 (o_il 40 3) := so_il (Or.inl ⟨3, rfl, rfl, rfl⟩) (by decide +kernel)
theorem t_58_40 : am_ok lw_Ts cX6_piece 5 RX6 40 (o_il 42 4) := so_il (Or.inr ⟨rfl, rfl⟩) (by decide +kernel)
theorem t_58_42 : am_okc gm_mi gm_mt lw_Ts lw_Ns cX6_piece RX6 42 13 5 := ⟨149, cf_13.1, cf_13.2.1, cf_13.2.2.1, cf_13.2.2.2, Or.inr ⟨3, 4, TX3, 12, rfl, rfl, rfl, (by decide +kernel), wt_509, wt_510, wt_508, by decide +kernel⟩⟩
theorem t_58_45 : am_okr cX6_piece 45 1 := (show decode cX6_piece 45 = .ok (.ireturn, 1) by decide +kernel)
set_option maxRecDepth 20000 in
theorem ok_58 : am_okL gm_mi gm_mt lw_Ts lw_Ns 58 cd_58 := ⟨t_58_0, t_58_1, t_58_4, t_58_5, t_58_8, t_58_11, t_58_12, t_58_13, t_58_15, t_58_18, t_58_21, t_58_22, t_58_23, t_58_25, t_58_28, t_58_31, t_58_32, t_58_33, t_58_34, t_58_37, t_58_38, t_58_39, t_58_40, t_58_42, t_58_45, trivial⟩
theorem t_59_0 : am_ok lw_Ts cX6_played 3 RX6 0 (o_al 1 0) := so_al (Or.inl ⟨0, rfl, rfl, rfl⟩) (by decide +kernel)
theorem t_59_1 : am_ok lw_Ts cX6_played 3 RX6 1 (o_gf 4 6 4) := so_gf cl_X6 (by decide) wt_292 (by decide +kernel)
theorem t_59_4 : am_ok lw_Ts cX6_played 3 RX6 4 (o_il 5 1) := so_il (Or.inl ⟨1, rfl, rfl, rfl⟩) (by decide +kernel)
theorem t_59_5 : am_okc gm_mi gm_mt lw_Ts lw_Ns cX6_played RX6 5 12 2 := ⟨152, cf_12.1, cf_12.2.1, cf_12.2.2.1, cf_12.2.2.2, Or.inr ⟨3, 1, TX3, 12, rfl, rfl, rfl, (by decide +kernel), wt_518, wt_519, wt_517, by decide +kernel⟩⟩
theorem t_59_8 : am_ok lw_Ts cX6_played 3 RX6 8 (o_if 22 11 q_eq) := so_if_eq (off := 14) (by decide +kernel) rfl
theorem t_59_11 : am_ok lw_Ts cX6_played 3 RX6 11 (o_il 12 2) := so_il (Or.inl ⟨2, rfl, rfl, rfl⟩) (by decide +kernel)
theorem t_59_12 : am_ok lw_Ts cX6_played 3 RX6 12 (o_k 13 (vI (0))) := so_k (by decide +kernel)
theorem t_59_13 : am_ok lw_Ts cX6_played 3 RX6 13 (o_k 16 (vI (400))) := so_sp rfl (by decide +kernel)
theorem t_59_16 : am_okc gm_mi gm_mt lw_Ts lw_Ns cX6_played RX6 16 66 3 := ⟨59, cf_66.1, cf_66.2.1, cf_66.2.2.1, cf_66.2.2.2, Or.inl ⟨rfl, (by decide +kernel), wt_312, by decide +kernel, (Or.inl wt_311)⟩⟩
theorem t_59_19 : am_ok lw_Ts cX6_played 3 RX6 19 (o_if 24 22 q_ne) := so_if_ne (off := 5) (by decide +kernel) rfl
theorem t_59_22 : am_ok lw_Ts cX6_played 3 RX6 22 (o_k 23 (vI (0))) := so_k (by decide +kernel)
theorem t_59_23 : am_okr cX6_played 23 2 := (show decode cX6_played 23 = .ok (.ireturn, 1) by decide +kernel)
theorem t_59_24 : am_ok lw_Ts cX6_played 3 RX6 24 (o_al 25 0) := so_al (Or.inl ⟨0, rfl, rfl, rfl⟩) (by decide +kernel)
theorem t_59_25 : am_ok lw_Ts cX6_played 3 RX6 25 (o_gf 28 6 4) := so_gf cl_X6 (by decide) wt_292 (by decide +kernel)
theorem t_59_28 : am_ok lw_Ts cX6_played 3 RX6 28 (o_gf 31 3 4) := so_gf cl_X3 (by decide) wt_227 (by decide +kernel)
theorem t_59_31 : am_ok lw_Ts cX6_played 3 RX6 31 (o_il 32 1) := so_il (Or.inl ⟨1, rfl, rfl, rfl⟩) (by decide +kernel)
theorem t_59_32 : am_ok lw_Ts cX6_played 3 RX6 32 (o_il 33 2) := so_il (Or.inl ⟨2, rfl, rfl, rfl⟩) (by decide +kernel)
theorem t_59_33 : am_ok lw_Ts cX6_played 3 RX6 33 (o_iw 34) := so_iw (by decide +kernel)
theorem t_59_34 : am_ok lw_Ts cX6_played 3 RX6 34 (o_k 35 (vI (1))) := so_k (by decide +kernel)
theorem t_59_35 : am_okr cX6_played 35 2 := (show decode cX6_played 35 = .ok (.ireturn, 1) by decide +kernel)
set_option maxRecDepth 20000 in
theorem ok_59 : am_okL gm_mi gm_mt lw_Ts lw_Ns 59 cd_59 := ⟨t_59_0, t_59_1, t_59_4, t_59_5, t_59_8, t_59_11, t_59_12, t_59_13, t_59_16, t_59_19, t_59_22, t_59_23, t_59_24, t_59_25, t_59_28, t_59_31, t_59_32, t_59_33, t_59_34, t_59_35, trivial⟩
theorem t_60_0 : am_ok lw_Ts cX6_row 3 RX6 0 (o_il 1 1) := so_il (Or.inl ⟨1, rfl, rfl, rfl⟩) (by decide +kernel)
theorem t_60_1 : am_ok lw_Ts cX6_row 3 RX6 1 (o_k 2 (vI (0))) := so_k (by decide +kernel)
theorem t_60_2 : am_ok lw_Ts cX6_row 3 RX6 2 (o_k 5 (vI (400))) := so_sp rfl (by decide +kernel)
theorem t_60_5 : am_okc gm_mi gm_mt lw_Ts lw_Ns cX6_row RX6 5 66 3 := ⟨59, cf_66.1, cf_66.2.1, cf_66.2.2.1, cf_66.2.2.2, Or.inl ⟨rfl, (by decide +kernel), wt_312, by decide +kernel, (Or.inl wt_311)⟩⟩
theorem t_60_8 : am_ok lw_Ts cX6_row 3 RX6 8 (o_if 22 11 q_eq) := so_if_eq (off := 14) (by decide +kernel) rfl
theorem t_60_11 : am_ok lw_Ts cX6_row 3 RX6 11 (o_il 12 2) := so_il (Or.inl ⟨2, rfl, rfl, rfl⟩) (by decide +kernel)
theorem t_60_12 : am_ok lw_Ts cX6_row 3 RX6 12 (o_k 13 (vI (1))) := so_k (by decide +kernel)
theorem t_60_13 : am_ok lw_Ts cX6_row 3 RX6 13 (o_k 16 (vI (300))) := so_sp rfl (by decide +kernel)
theorem t_60_16 : am_okc gm_mi gm_mt lw_Ts lw_Ns cX6_row RX6 16 66 3 := ⟨59, cf_66.1, cf_66.2.1, cf_66.2.2.1, cf_66.2.2.2, Or.inl ⟨rfl, (by decide +kernel), wt_312, by decide +kernel, (Or.inl wt_311)⟩⟩
theorem t_60_19 : am_ok lw_Ts cX6_row 3 RX6 19 (o_if 24 22 q_ne) := so_if_ne (off := 5) (by decide +kernel) rfl
theorem t_60_22 : am_ok lw_Ts cX6_row 3 RX6 22 (o_k 23 (vI (-1))) := so_k (by decide +kernel)
theorem t_60_23 : am_okr cX6_row 23 1 := (show decode cX6_row 23 = .ok (.ireturn, 1) by decide +kernel)
theorem t_60_24 : am_ok lw_Ts cX6_row 3 RX6 24 (o_al 25 0) := so_al (Or.inl ⟨0, rfl, rfl, rfl⟩) (by decide +kernel)
theorem t_60_25 : am_ok lw_Ts cX6_row 3 RX6 25 (o_gf 28 6 4) := so_gf cl_X6 (by decide) wt_292 (by decide +kernel)
theorem t_60_28 : am_ok lw_Ts cX6_row 3 RX6 28 (o_il 29 1) := so_il (Or.inl ⟨1, rfl, rfl, rfl⟩) (by decide +kernel)
theorem t_60_29 : am_ok lw_Ts cX6_row 3 RX6 29 (o_il 30 2) := so_il (Or.inl ⟨2, rfl, rfl, rfl⟩) (by decide +kernel)
theorem t_60_30 : am_okc gm_mi gm_mt lw_Ts lw_Ns cX6_row RX6 30 14 3 := ⟨156, cf_14.1, cf_14.2.1, cf_14.2.2.1, cf_14.2.2.2, Or.inr ⟨3, 2, TX3, 12, rfl, rfl, rfl, (by decide +kernel), wt_527, wt_528, wt_526, by decide +kernel⟩⟩
theorem t_60_33 : am_okr cX6_row 33 1 := (show decode cX6_row 33 = .ok (.ireturn, 1) by decide +kernel)
set_option maxRecDepth 20000 in
theorem ok_60 : am_okL gm_mi gm_mt lw_Ts lw_Ns 60 cd_60 := ⟨t_60_0, t_60_1, t_60_2, t_60_5, t_60_8, t_60_11, t_60_12, t_60_13, t_60_16, t_60_19, t_60_22, t_60_23, t_60_24, t_60_25, t_60_28, t_60_29, t_60_30, t_60_33, trivial⟩
theorem t_61_0 : am_ok lw_Ts cX6_told 2 RX6 0 (o_il 1 1) := so_il (Or.inl ⟨1, rfl, rfl, rfl⟩) (by decide +kernel)
theorem t_61_1 : am_ok lw_Ts cX6_told 2 RX6 1 (o_k 2 (vI (0))) := so_k (by decide +kernel)
theorem t_61_2 : am_ok lw_Ts cX6_told 2 RX6 2 (o_al 3 0) := so_al (Or.inl ⟨0, rfl, rfl, rfl⟩) (by decide +kernel)
theorem t_61_3 : am_ok lw_Ts cX6_told 2 RX6 3 (o_gf 6 6 4) := so_gf cl_X6 (by decide) wt_292 (by decide +kernel)
theorem t_61_6 : am_ok lw_Ts cX6_told 2 RX6 6 (o_gf 9 3 11) := so_gf cl_X3 (by decide) wt_238 (by decide +kernel)
theorem t_61_9 : am_ok lw_Ts cX6_told 2 RX6 9 (o_k 10 (vI (1))) := so_k (by decide +kernel)
theorem t_61_10 : am_ok lw_Ts cX6_told 2 RX6 10 (o_ib 11 f_sub) := so_isub (by decide +kernel)
theorem t_61_11 : am_okc gm_mi gm_mt lw_Ts lw_Ns cX6_told RX6 11 66 3 := ⟨59, cf_66.1, cf_66.2.1, cf_66.2.2.1, cf_66.2.2.2, Or.inl ⟨rfl, (by decide +kernel), wt_312, by decide +kernel, (Or.inl wt_311)⟩⟩
theorem t_61_14 : am_ok lw_Ts cX6_told 2 RX6 14 (o_if 29 17 q_eq) := so_if_eq (off := 15) (by decide +kernel) rfl
theorem t_61_17 : am_ok lw_Ts cX6_told 2 RX6 17 (o_al 18 0) := so_al (Or.inl ⟨0, rfl, rfl, rfl⟩) (by decide +kernel)
theorem t_61_18 : am_ok lw_Ts cX6_told 2 RX6 18 (o_gf 21 6 4) := so_gf cl_X6 (by decide) wt_292 (by decide +kernel)
theorem t_61_21 : am_ok lw_Ts cX6_told 2 RX6 21 (o_gf 24 3 6) := so_gf cl_X3 (by decide) wt_230 (by decide +kernel)
theorem t_61_24 : am_ok lw_Ts cX6_told 2 RX6 24 (o_il 25 1) := so_il (Or.inl ⟨1, rfl, rfl, rfl⟩) (by decide +kernel)
theorem t_61_25 : am_ok lw_Ts cX6_told 2 RX6 25 (o_ia 26) := so_ia (by decide +kernel)
theorem t_61_26 : am_ok lw_Ts cX6_told 2 RX6 26 (o_go 30) := so_go (off := 4) (by decide +kernel) rfl
theorem t_61_29 : am_ok lw_Ts cX6_told 2 RX6 29 (o_k 30 (vI (-1))) := so_k (by decide +kernel)
theorem t_61_30 : am_okr cX6_told 30 1 := (show decode cX6_told 30 = .ok (.ireturn, 1) by decide +kernel)
set_option maxRecDepth 20000 in
theorem ok_61 : am_okL gm_mi gm_mt lw_Ts lw_Ns 61 cd_61 := ⟨t_61_0, t_61_1, t_61_2, t_61_3, t_61_6, t_61_9, t_61_10, t_61_11, t_61_14, t_61_17, t_61_18, t_61_21, t_61_24, t_61_25, t_61_26, t_61_29, t_61_30, trivial⟩
theorem t_62_0 : am_ok lw_Ts cX6_vote 3 RX6 0 (o_il 1 1) := so_il (Or.inl ⟨1, rfl, rfl, rfl⟩) (by decide +kernel)
theorem t_62_1 : am_ok lw_Ts cX6_vote 3 RX6 1 (o_k 2 (vI (0))) := so_k (by decide +kernel)
theorem t_62_2 : am_ok lw_Ts cX6_vote 3 RX6 2 (o_k 4 (vI (6))) := so_bp rfl (by decide +kernel)
theorem t_62_4 : am_okc gm_mi gm_mt lw_Ts lw_Ns cX6_vote RX6 4 66 3 := ⟨59, cf_66.1, cf_66.2.1, cf_66.2.2.1, cf_66.2.2.2, Or.inl ⟨rfl, (by decide +kernel), wt_312, by decide +kernel, (Or.inl wt_311)⟩⟩
theorem t_62_7 : am_ok lw_Ts cX6_vote 3 RX6 7 (o_if 21 10 q_eq) := so_if_eq (off := 14) (by decide +kernel) rfl
theorem t_62_10 : am_ok lw_Ts cX6_vote 3 RX6 10 (o_al 11 0) := so_al (Or.inl ⟨0, rfl, rfl, rfl⟩) (by decide +kernel)
theorem t_62_11 : am_ok lw_Ts cX6_vote 3 RX6 11 (o_gf 14 6 1) := so_gf cl_X6 (by decide) wt_289 (by decide +kernel)
theorem t_62_14 : am_ok lw_Ts cX6_vote 3 RX6 14 (o_il 15 2) := so_il (Or.inl ⟨2, rfl, rfl, rfl⟩) (by decide +kernel)
theorem t_62_15 : am_okc gm_mi gm_mt lw_Ts lw_Ns cX6_vote RX6 15 0 2 := ⟨70, cf_0.1, cf_0.2.1, cf_0.2.2.1, cf_0.2.2.2, Or.inr ⟨0, 1, TX0, 5, rfl, rfl, rfl, (by decide +kernel), wt_331, wt_332, wt_330, by decide +kernel⟩⟩
theorem t_62_18 : am_ok lw_Ts cX6_vote 3 RX6 18 (o_if 23 21 q_ne) := so_if_ne (off := 5) (by decide +kernel) rfl
theorem t_62_21 : am_ok lw_Ts cX6_vote 3 RX6 21 (o_k 22 (vI (-1))) := so_k (by decide +kernel)
theorem t_62_22 : am_okr cX6_vote 22 1 := (show decode cX6_vote 22 = .ok (.ireturn, 1) by decide +kernel)
theorem t_62_23 : am_ok lw_Ts cX6_vote 3 RX6 23 (o_al 24 0) := so_al (Or.inl ⟨0, rfl, rfl, rfl⟩) (by decide +kernel)
theorem t_62_24 : am_ok lw_Ts cX6_vote 3 RX6 24 (o_gf 27 6 5) := so_gf cl_X6 (by decide) wt_293 (by decide +kernel)
theorem t_62_27 : am_ok lw_Ts cX6_vote 3 RX6 27 (o_il 28 1) := so_il (Or.inl ⟨1, rfl, rfl, rfl⟩) (by decide +kernel)
theorem t_62_28 : am_ok lw_Ts cX6_vote 3 RX6 28 (o_il 29 2) := so_il (Or.inl ⟨2, rfl, rfl, rfl⟩) (by decide +kernel)
theorem t_62_29 : am_okc gm_mi gm_mt lw_Ts lw_Ns cX6_vote RX6 29 2 3 := ⟨162, cf_2.1, cf_2.2.1, cf_2.2.2.1, cf_2.2.2.2, Or.inr ⟨1, 2, TX1, 5, rfl, rfl, rfl, (by decide +kernel), wt_582, wt_583, wt_581, by decide +kernel⟩⟩
theorem t_62_32 : am_okr cX6_vote 32 1 := (show decode cX6_vote 32 = .ok (.ireturn, 1) by decide +kernel)
set_option maxRecDepth 20000 in
theorem ok_62 : am_okL gm_mi gm_mt lw_Ts lw_Ns 62 cd_62 := ⟨t_62_0, t_62_1, t_62_2, t_62_4, t_62_7, t_62_10, t_62_11, t_62_14, t_62_15, t_62_18, t_62_21, t_62_22, t_62_23, t_62_24, t_62_27, t_62_28, t_62_29, t_62_32, trivial⟩
theorem t_63_0 : am_ok lw_Ts cX6_kin 4 RX6 0 (o_il 1 1) := so_il (Or.inl ⟨1, rfl, rfl, rfl⟩) (by decide +kernel)
theorem t_63_1 : am_ok lw_Ts cX6_kin 4 RX6 1 (o_k 2 (vI (0))) := so_k (by decide +kernel)
theorem t_63_2 : am_ok lw_Ts cX6_kin 4 RX6 2 (o_k 4 (vI (6))) := so_bp rfl (by decide +kernel)
theorem t_63_4 : am_okc gm_mi gm_mt lw_Ts lw_Ns cX6_kin RX6 4 66 3 := ⟨59, cf_66.1, cf_66.2.1, cf_66.2.2.1, cf_66.2.2.2, Or.inl ⟨rfl, (by decide +kernel), wt_312, by decide +kernel, (Or.inl wt_311)⟩⟩
theorem t_63_7 : am_ok lw_Ts cX6_kin 4 RX6 7 (o_if 21 10 q_eq) := so_if_eq (off := 14) (by decide +kernel) rfl
theorem t_63_10 : am_ok lw_Ts cX6_kin 4 RX6 10 (o_al 11 0) := so_al (Or.inl ⟨0, rfl, rfl, rfl⟩) (by decide +kernel)
theorem t_63_11 : am_ok lw_Ts cX6_kin 4 RX6 11 (o_gf 14 6 1) := so_gf cl_X6 (by decide) wt_289 (by decide +kernel)
theorem t_63_14 : am_ok lw_Ts cX6_kin 4 RX6 14 (o_il 15 2) := so_il (Or.inl ⟨2, rfl, rfl, rfl⟩) (by decide +kernel)
theorem t_63_15 : am_okc gm_mi gm_mt lw_Ts lw_Ns cX6_kin RX6 15 0 2 := ⟨70, cf_0.1, cf_0.2.1, cf_0.2.2.1, cf_0.2.2.2, Or.inr ⟨0, 1, TX0, 5, rfl, rfl, rfl, (by decide +kernel), wt_331, wt_332, wt_330, by decide +kernel⟩⟩
theorem t_63_18 : am_ok lw_Ts cX6_kin 4 RX6 18 (o_if 23 21 q_ne) := so_if_ne (off := 5) (by decide +kernel) rfl
theorem t_63_21 : am_ok lw_Ts cX6_kin 4 RX6 21 (o_k 22 (vI (0))) := so_k (by decide +kernel)
theorem t_63_22 : am_okr cX6_kin 22 2 := (show decode cX6_kin 22 = .ok (.ireturn, 1) by decide +kernel)
theorem t_63_23 : am_ok lw_Ts cX6_kin 4 RX6 23 (o_al 24 0) := so_al (Or.inl ⟨0, rfl, rfl, rfl⟩) (by decide +kernel)
theorem t_63_24 : am_ok lw_Ts cX6_kin 4 RX6 24 (o_gf 27 6 5) := so_gf cl_X6 (by decide) wt_293 (by decide +kernel)
theorem t_63_27 : am_ok lw_Ts cX6_kin 4 RX6 27 (o_gf 30 1 3) := so_gf cl_X1 (by decide) wt_275 (by decide +kernel)
theorem t_63_30 : am_ok lw_Ts cX6_kin 4 RX6 30 (o_il 31 1) := so_il (Or.inl ⟨1, rfl, rfl, rfl⟩) (by decide +kernel)
theorem t_63_31 : am_ok lw_Ts cX6_kin 4 RX6 31 (o_al 32 0) := so_al (Or.inl ⟨0, rfl, rfl, rfl⟩) (by decide +kernel)
theorem t_63_32 : am_ok lw_Ts cX6_kin 4 RX6 32 (o_gf 35 6 5) := so_gf cl_X6 (by decide) wt_293 (by decide +kernel)
theorem t_63_35 : am_ok lw_Ts cX6_kin 4 RX6 35 (o_gf 38 1 3) := so_gf cl_X1 (by decide) wt_275 (by decide +kernel)
theorem t_63_38 : am_ok lw_Ts cX6_kin 4 RX6 38 (o_il 39 1) := so_il (Or.inl ⟨1, rfl, rfl, rfl⟩) (by decide +kernel)
theorem t_63_39 : am_ok lw_Ts cX6_kin 4 RX6 39 (o_ia 40) := so_ia (by decide +kernel)
theorem t_63_40 : am_ok lw_Ts cX6_kin 4 RX6 40 (o_il 41 2) := so_il (Or.inl ⟨2, rfl, rfl, rfl⟩) (by decide +kernel)
theorem t_63_41 : am_ok lw_Ts cX6_kin 4 RX6 41 (o_il 42 3) := so_il (Or.inl ⟨3, rfl, rfl, rfl⟩) (by decide +kernel)
theorem t_63_42 : am_okc gm_mi gm_mt lw_Ts lw_Ns cX6_kin RX6 42 68 3 := ⟨83, cf_68.1, cf_68.2.1, cf_68.2.2.1, cf_68.2.2.2, Or.inl ⟨rfl, (by decide +kernel), wt_345, by decide +kernel, (Or.inl wt_344)⟩⟩
theorem t_63_45 : am_ok lw_Ts cX6_kin 4 RX6 45 (o_iw 46) := so_iw (by decide +kernel)
theorem t_63_46 : am_ok lw_Ts cX6_kin 4 RX6 46 (o_k 47 (vI (1))) := so_k (by decide +kernel)
theorem t_63_47 : am_okr cX6_kin 47 2 := (show decode cX6_kin 47 = .ok (.ireturn, 1) by decide +kernel)
set_option maxRecDepth 20000 in
theorem ok_63 : am_okL gm_mi gm_mt lw_Ts lw_Ns 63 cd_63 := ⟨t_63_0, t_63_1, t_63_2, t_63_4, t_63_7, t_63_10, t_63_11, t_63_14, t_63_15, t_63_18, t_63_21, t_63_22, t_63_23, t_63_24, t_63_27, t_63_30, t_63_31, t_63_32, t_63_35, t_63_38, t_63_39, t_63_40, t_63_41, t_63_42, t_63_45, t_63_46, t_63_47, trivial⟩
theorem t_64_0 : am_ok lw_Ts cX6_points 2 RX6 0 (o_al 1 0) := so_al (Or.inl ⟨0, rfl, rfl, rfl⟩) (by decide +kernel)
theorem t_64_1 : am_ok lw_Ts cX6_points 2 RX6 1 (o_gf 4 6 1) := so_gf cl_X6 (by decide) wt_289 (by decide +kernel)
theorem t_64_4 : am_ok lw_Ts cX6_points 2 RX6 4 (o_il 5 1) := so_il (Or.inl ⟨1, rfl, rfl, rfl⟩) (by decide +kernel)
theorem t_64_5 : am_okc gm_mi gm_mt lw_Ts lw_Ns cX6_points RX6 5 0 2 := ⟨70, cf_0.1, cf_0.2.1, cf_0.2.2.1, cf_0.2.2.2, Or.inr ⟨0, 1, TX0, 5, rfl, rfl, rfl, (by decide +kernel), wt_331, wt_332, wt_330, by decide +kernel⟩⟩
theorem t_64_8 : am_ok lw_Ts cX6_points 2 RX6 8 (o_if 22 11 q_eq) := so_if_eq (off := 14) (by decide +kernel) rfl
theorem t_64_11 : am_ok lw_Ts cX6_points 2 RX6 11 (o_al 12 0) := so_al (Or.inl ⟨0, rfl, rfl, rfl⟩) (by decide +kernel)
theorem t_64_12 : am_ok lw_Ts cX6_points 2 RX6 12 (o_gf 15 6 5) := so_gf cl_X6 (by decide) wt_293 (by decide +kernel)
theorem t_64_15 : am_ok lw_Ts cX6_points 2 RX6 15 (o_il 16 1) := so_il (Or.inl ⟨1, rfl, rfl, rfl⟩) (by decide +kernel)
theorem t_64_16 : am_okc gm_mi gm_mt lw_Ts lw_Ns cX6_points RX6 16 3 2 := ⟨168, cf_3.1, cf_3.2.1, cf_3.2.2.1, cf_3.2.2.2, Or.inr ⟨1, 1, TX1, 5, rfl, rfl, rfl, (by decide +kernel), wt_594, wt_595, wt_593, by decide +kernel⟩⟩
theorem t_64_19 : am_ok lw_Ts cX6_points 2 RX6 19 (o_go 23) := so_go (off := 4) (by decide +kernel) rfl
theorem t_64_22 : am_ok lw_Ts cX6_points 2 RX6 22 (o_k 23 (vI (-1))) := so_k (by decide +kernel)
theorem t_64_23 : am_okr cX6_points 23 1 := (show decode cX6_points 23 = .ok (.ireturn, 1) by decide +kernel)
set_option maxRecDepth 20000 in
theorem ok_64 : am_okL gm_mi gm_mt lw_Ts lw_Ns 64 cd_64 := ⟨t_64_0, t_64_1, t_64_4, t_64_5, t_64_8, t_64_11, t_64_12, t_64_15, t_64_16, t_64_19, t_64_22, t_64_23, trivial⟩
theorem t_65_0 : am_ok lw_Ts cX6_prize 2 RX6 0 (o_al 1 0) := so_al (Or.inl ⟨0, rfl, rfl, rfl⟩) (by decide +kernel)
theorem t_65_1 : am_ok lw_Ts cX6_prize 2 RX6 1 (o_gf 4 6 1) := so_gf cl_X6 (by decide) wt_289 (by decide +kernel)
theorem t_65_4 : am_ok lw_Ts cX6_prize 2 RX6 4 (o_il 5 1) := so_il (Or.inl ⟨1, rfl, rfl, rfl⟩) (by decide +kernel)
theorem t_65_5 : am_okc gm_mi gm_mt lw_Ts lw_Ns cX6_prize RX6 5 0 2 := ⟨70, cf_0.1, cf_0.2.1, cf_0.2.2.1, cf_0.2.2.2, Or.inr ⟨0, 1, TX0, 5, rfl, rfl, rfl, (by decide +kernel), wt_331, wt_332, wt_330, by decide +kernel⟩⟩
theorem t_65_8 : am_ok lw_Ts cX6_prize 2 RX6 8 (o_if 22 11 q_eq) := so_if_eq (off := 14) (by decide +kernel) rfl
theorem t_65_11 : am_ok lw_Ts cX6_prize 2 RX6 11 (o_al 12 0) := so_al (Or.inl ⟨0, rfl, rfl, rfl⟩) (by decide +kernel)
theorem t_65_12 : am_ok lw_Ts cX6_prize 2 RX6 12 (o_gf 15 6 5) := so_gf cl_X6 (by decide) wt_293 (by decide +kernel)
theorem t_65_15 : am_ok lw_Ts cX6_prize 2 RX6 15 (o_il 16 1) := so_il (Or.inl ⟨1, rfl, rfl, rfl⟩) (by decide +kernel)
theorem t_65_16 : am_okc gm_mi gm_mt lw_Ts lw_Ns cX6_prize RX6 16 5 2 := ⟨171, cf_5.1, cf_5.2.1, cf_5.2.2.1, cf_5.2.2.2, Or.inr ⟨1, 1, TX1, 5, rfl, rfl, rfl, (by decide +kernel), wt_610, wt_611, wt_609, by decide +kernel⟩⟩
theorem t_65_19 : am_ok lw_Ts cX6_prize 2 RX6 19 (o_go 23) := so_go (off := 4) (by decide +kernel) rfl
theorem t_65_22 : am_ok lw_Ts cX6_prize 2 RX6 22 (o_k 23 (vI (-1))) := so_k (by decide +kernel)
theorem t_65_23 : am_okr cX6_prize 23 1 := (show decode cX6_prize 23 = .ok (.ireturn, 1) by decide +kernel)
set_option maxRecDepth 20000 in
theorem ok_65 : am_okL gm_mi gm_mt lw_Ts lw_Ns 65 cd_65 := ⟨t_65_0, t_65_1, t_65_4, t_65_5, t_65_8, t_65_11, t_65_12, t_65_15, t_65_16, t_65_19, t_65_22, t_65_23, trivial⟩
theorem t_66_0 : am_ok lw_Ts cX6_isWithin 3 RX6 0 (o_il 1 0) := so_il (Or.inl ⟨0, rfl, rfl, rfl⟩) (by decide +kernel)
theorem t_66_1 : am_ok lw_Ts cX6_isWithin 3 RX6 1 (o_il 2 1) := so_il (Or.inl ⟨1, rfl, rfl, rfl⟩) (by decide +kernel)
theorem t_66_2 : am_ok lw_Ts cX6_isWithin 3 RX6 2 (o_ic 14 5 r_lt) := so_ic_lt (off := 12) (by decide +kernel) rfl
theorem t_66_5 : am_ok lw_Ts cX6_isWithin 3 RX6 5 (o_il 6 0) := so_il (Or.inl ⟨0, rfl, rfl, rfl⟩) (by decide +kernel)
theorem t_66_6 : am_ok lw_Ts cX6_isWithin 3 RX6 6 (o_il 7 2) := so_il (Or.inl ⟨2, rfl, rfl, rfl⟩) (by decide +kernel)
theorem t_66_7 : am_ok lw_Ts cX6_isWithin 3 RX6 7 (o_ic 14 10 r_gt) := so_ic_gt (off := 7) (by decide +kernel) rfl
theorem t_66_10 : am_ok lw_Ts cX6_isWithin 3 RX6 10 (o_k 11 (vI (1))) := so_k (by decide +kernel)
theorem t_66_11 : am_ok lw_Ts cX6_isWithin 3 RX6 11 (o_go 15) := so_go (off := 4) (by decide +kernel) rfl
theorem t_66_14 : am_ok lw_Ts cX6_isWithin 3 RX6 14 (o_k 15 (vI (0))) := so_k (by decide +kernel)
theorem t_66_15 : am_okr cX6_isWithin 15 2 := (show decode cX6_isWithin 15 = .ok (.ireturn, 1) by decide +kernel)
set_option maxRecDepth 20000 in
theorem ok_66 : am_okL gm_mi gm_mt lw_Ts lw_Ns 66 cd_66 := ⟨t_66_0, t_66_1, t_66_2, t_66_5, t_66_6, t_66_7, t_66_10, t_66_11, t_66_14, t_66_15, trivial⟩
theorem t_67_0 : am_ok lw_Ts cX6_hasBit 2 RX6 0 (o_il 1 0) := so_il (Or.inl ⟨0, rfl, rfl, rfl⟩) (by decide +kernel)
theorem t_67_1 : am_ok lw_Ts cX6_hasBit 2 RX6 1 (o_il 2 1) := so_il (Or.inl ⟨1, rfl, rfl, rfl⟩) (by decide +kernel)
theorem t_67_2 : am_ok lw_Ts cX6_hasBit 2 RX6 2 (o_ib 3 f_shr) := so_ishr (by decide +kernel)
theorem t_67_3 : am_ok lw_Ts cX6_hasBit 2 RX6 3 (o_k 4 (vI (1))) := so_k (by decide +kernel)
theorem t_67_4 : am_ok lw_Ts cX6_hasBit 2 RX6 4 (o_ib 5 f_and) := so_iand (by decide +kernel)
theorem t_67_5 : am_ok lw_Ts cX6_hasBit 2 RX6 5 (o_if 12 8 q_eq) := so_if_eq (off := 7) (by decide +kernel) rfl
theorem t_67_8 : am_ok lw_Ts cX6_hasBit 2 RX6 8 (o_k 9 (vI (1))) := so_k (by decide +kernel)
theorem t_67_9 : am_ok lw_Ts cX6_hasBit 2 RX6 9 (o_go 13) := so_go (off := 4) (by decide +kernel) rfl
theorem t_67_12 : am_ok lw_Ts cX6_hasBit 2 RX6 12 (o_k 13 (vI (0))) := so_k (by decide +kernel)
theorem t_67_13 : am_okr cX6_hasBit 13 2 := (show decode cX6_hasBit 13 = .ok (.ireturn, 1) by decide +kernel)
set_option maxRecDepth 20000 in
theorem ok_67 : am_okL gm_mi gm_mt lw_Ts lw_Ns 67 cd_67 := ⟨t_67_0, t_67_1, t_67_2, t_67_3, t_67_4, t_67_5, t_67_8, t_67_9, t_67_12, t_67_13, trivial⟩
theorem t_68_0 : am_ok lw_Ts cX6_withBit 3 RX6 0 (o_il 1 2) := so_il (Or.inl ⟨2, rfl, rfl, rfl⟩) (by decide +kernel)
theorem t_68_1 : am_ok lw_Ts cX6_withBit 3 RX6 1 (o_if 12 4 q_eq) := so_if_eq (off := 11) (by decide +kernel) rfl
theorem t_68_4 : am_ok lw_Ts cX6_withBit 3 RX6 4 (o_il 5 0) := so_il (Or.inl ⟨0, rfl, rfl, rfl⟩) (by decide +kernel)
theorem t_68_5 : am_ok lw_Ts cX6_withBit 3 RX6 5 (o_k 6 (vI (1))) := so_k (by decide +kernel)
theorem t_68_6 : am_ok lw_Ts cX6_withBit 3 RX6 6 (o_il 7 1) := so_il (Or.inl ⟨1, rfl, rfl, rfl⟩) (by decide +kernel)
theorem t_68_7 : am_ok lw_Ts cX6_withBit 3 RX6 7 (o_ib 8 f_shl) := so_ishl (by decide +kernel)
theorem t_68_8 : am_ok lw_Ts cX6_withBit 3 RX6 8 (o_ib 9 f_or) := so_ior (by decide +kernel)
theorem t_68_9 : am_ok lw_Ts cX6_withBit 3 RX6 9 (o_go 19) := so_go (off := 10) (by decide +kernel) rfl
theorem t_68_12 : am_ok lw_Ts cX6_withBit 3 RX6 12 (o_il 13 0) := so_il (Or.inl ⟨0, rfl, rfl, rfl⟩) (by decide +kernel)
theorem t_68_13 : am_ok lw_Ts cX6_withBit 3 RX6 13 (o_k 14 (vI (1))) := so_k (by decide +kernel)
theorem t_68_14 : am_ok lw_Ts cX6_withBit 3 RX6 14 (o_il 15 1) := so_il (Or.inl ⟨1, rfl, rfl, rfl⟩) (by decide +kernel)
theorem t_68_15 : am_ok lw_Ts cX6_withBit 3 RX6 15 (o_ib 16 f_shl) := so_ishl (by decide +kernel)
theorem t_68_16 : am_ok lw_Ts cX6_withBit 3 RX6 16 (o_k 17 (vI (-1))) := so_k (by decide +kernel)
theorem t_68_17 : am_ok lw_Ts cX6_withBit 3 RX6 17 (o_ib 18 f_xor) := so_ixor (by decide +kernel)
theorem t_68_18 : am_ok lw_Ts cX6_withBit 3 RX6 18 (o_ib 19 f_and) := so_iand (by decide +kernel)
theorem t_68_19 : am_okr cX6_withBit 19 1 := (show decode cX6_withBit 19 = .ok (.ireturn, 1) by decide +kernel)
set_option maxRecDepth 20000 in
theorem ok_68 : am_okL gm_mi gm_mt lw_Ts lw_Ns 68 cd_68 := ⟨t_68_0, t_68_1, t_68_4, t_68_5, t_68_6, t_68_7, t_68_8, t_68_9, t_68_12, t_68_13, t_68_14, t_68_15, t_68_16, t_68_17, t_68_18, t_68_19, trivial⟩
theorem t_69_0 : am_ok lw_Ts cX7_thrown 1 RX7 0 (o_al 1 0) := so_al (Or.inl ⟨0, rfl, rfl, rfl⟩) (by decide +kernel)
theorem t_69_1 : am_ok lw_Ts cX7_thrown 1 RX7 1 (o_gf 4 7 25) := so_gf cl_X7 (by decide) wt_734 (by decide +kernel)
theorem t_69_4 : am_okr cX7_thrown 4 1 := (show decode cX7_thrown 4 = .ok (.ireturn, 1) by decide +kernel)
set_option maxRecDepth 20000 in
theorem ok_69 : am_okL gm_mi gm_mt lw_Ts lw_Ns 69 cd_69 := ⟨t_69_0, t_69_1, t_69_4, trivial⟩
theorem t_70_0 : am_ok lw_Ts cX7_in 3 RX7 0 (o_il 1 0) := so_il (Or.inl ⟨0, rfl, rfl, rfl⟩) (by decide +kernel)
theorem t_70_1 : am_ok lw_Ts cX7_in 3 RX7 1 (o_il 2 1) := so_il (Or.inl ⟨1, rfl, rfl, rfl⟩) (by decide +kernel)
theorem t_70_2 : am_ok lw_Ts cX7_in 3 RX7 2 (o_ic 14 5 r_lt) := so_ic_lt (off := 12) (by decide +kernel) rfl
theorem t_70_5 : am_ok lw_Ts cX7_in 3 RX7 5 (o_il 6 0) := so_il (Or.inl ⟨0, rfl, rfl, rfl⟩) (by decide +kernel)
theorem t_70_6 : am_ok lw_Ts cX7_in 3 RX7 6 (o_il 7 2) := so_il (Or.inl ⟨2, rfl, rfl, rfl⟩) (by decide +kernel)
theorem t_70_7 : am_ok lw_Ts cX7_in 3 RX7 7 (o_ic 14 10 r_gt) := so_ic_gt (off := 7) (by decide +kernel) rfl
theorem t_70_10 : am_ok lw_Ts cX7_in 3 RX7 10 (o_k 11 (vI (1))) := so_k (by decide +kernel)
theorem t_70_11 : am_ok lw_Ts cX7_in 3 RX7 11 (o_go 15) := so_go (off := 4) (by decide +kernel) rfl
theorem t_70_14 : am_ok lw_Ts cX7_in 3 RX7 14 (o_k 15 (vI (0))) := so_k (by decide +kernel)
theorem t_70_15 : am_okr cX7_in 15 2 := (show decode cX7_in 15 = .ok (.ireturn, 1) by decide +kernel)
set_option maxRecDepth 20000 in
theorem ok_70 : am_okL gm_mi gm_mt lw_Ts lw_Ns 70 cd_70 := ⟨t_70_0, t_70_1, t_70_2, t_70_5, t_70_6, t_70_7, t_70_10, t_70_11, t_70_14, t_70_15, trivial⟩
theorem t_71_0 : am_ok lw_Ts cX7_empty 2 RX7 0 (o_k 1 (vI (0))) := so_k (by decide +kernel)
theorem t_71_1 : am_ok lw_Ts cX7_empty 2 RX7 1 (o_is 2 1) := so_is (Or.inl ⟨1, rfl, rfl, rfl⟩) (by decide +kernel)
theorem t_71_2 : am_ok lw_Ts cX7_empty 2 RX7 2 (o_il 3 1) := so_il (Or.inl ⟨1, rfl, rfl, rfl⟩) (by decide +kernel)
theorem t_71_3 : am_ok lw_Ts cX7_empty 2 RX7 3 (o_k 5 (vI (6))) := so_bp rfl (by decide +kernel)
theorem t_71_5 : am_ok lw_Ts cX7_empty 2 RX7 5 (o_ic 28 8 r_ge) := so_ic_ge (off := 23) (by decide +kernel) rfl
theorem t_71_8 : am_ok lw_Ts cX7_empty 2 RX7 8 (o_al 9 0) := so_al (Or.inl ⟨0, rfl, rfl, rfl⟩) (by decide +kernel)
theorem t_71_9 : am_ok lw_Ts cX7_empty 2 RX7 9 (o_gf 12 7 12) := so_gf cl_X7 (by decide) wt_721 (by decide +kernel)
theorem t_71_12 : am_ok lw_Ts cX7_empty 2 RX7 12 (o_il 13 1) := so_il (Or.inl ⟨1, rfl, rfl, rfl⟩) (by decide +kernel)
theorem t_71_13 : am_ok lw_Ts cX7_empty 2 RX7 13 (o_k 14 (vI (-1))) := so_k (by decide +kernel)
theorem t_71_14 : am_ok lw_Ts cX7_empty 2 RX7 14 (o_iw 15) := so_iw (by decide +kernel)
theorem t_71_15 : am_ok lw_Ts cX7_empty 2 RX7 15 (o_al 16 0) := so_al (Or.inl ⟨0, rfl, rfl, rfl⟩) (by decide +kernel)
theorem t_71_16 : am_ok lw_Ts cX7_empty 2 RX7 16 (o_gf 19 7 13) := so_gf cl_X7 (by decide) wt_722 (by decide +kernel)
theorem t_71_19 : am_ok lw_Ts cX7_empty 2 RX7 19 (o_il 20 1) := so_il (Or.inl ⟨1, rfl, rfl, rfl⟩) (by decide +kernel)
theorem t_71_20 : am_ok lw_Ts cX7_empty 2 RX7 20 (o_k 21 (vI (-1))) := so_k (by decide +kernel)
theorem t_71_21 : am_ok lw_Ts cX7_empty 2 RX7 21 (o_iw 22) := so_iw (by decide +kernel)
theorem t_71_22 : am_ok lw_Ts cX7_empty 2 RX7 22 (o_ii 25 1 (1)) := so_ii (by decide +kernel)
theorem t_71_25 : am_ok lw_Ts cX7_empty 2 RX7 25 (o_go 2) := so_go (off := (-23)) (by decide +kernel) rfl
theorem t_71_28 : am_okr cX7_empty 28 0 := (show decode cX7_empty 28 = .ok (.return_, 1) by decide +kernel)
set_option maxRecDepth 20000 in
theorem ok_71 : am_okL gm_mi gm_mt lw_Ts lw_Ns 71 cd_71 := ⟨t_71_0, t_71_1, t_71_2, t_71_3, t_71_5, t_71_8, t_71_9, t_71_12, t_71_13, t_71_14, t_71_15, t_71_16, t_71_19, t_71_20, t_71_21, t_71_22, t_71_25, t_71_28, trivial⟩
