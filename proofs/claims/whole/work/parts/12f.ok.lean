theorem t_103_0 : am_ok lw_Ts cX7_row 7 RX7 0 (o_al 1 0) := so_al (Or.inl ⟨0, rfl, rfl, rfl⟩) (by decide +kernel)
theorem t_103_1 : am_ok lw_Ts cX7_row 7 RX7 1 (o_k 2 (vI (0))) := so_k (by decide +kernel)
theorem t_103_2 : am_ok lw_Ts cX7_row 7 RX7 2 (o_pf 5 7 25) := so_pf cl_X7 tyX7_ok nmX7 (by decide) rfl rfl wt_734 (by decide +kernel)
theorem t_103_5 : am_ok lw_Ts cX7_row 7 RX7 5 (o_il 6 1) := so_il (Or.inl ⟨1, rfl, rfl, rfl⟩) (by decide +kernel)
theorem t_103_6 : am_ok lw_Ts cX7_row 7 RX7 6 (o_k 7 (vI (0))) := so_k (by decide +kernel)
theorem t_103_7 : am_ok lw_Ts cX7_row 7 RX7 7 (o_k 10 (vI (400))) := so_sp rfl (by decide +kernel)
theorem t_103_10 : am_okc gm_mi gm_mt lw_Ts lw_Ns cX7_row RX7 10 70 3 := ⟨114, cf_70.1, cf_70.2.1, cf_70.2.2.1, cf_70.2.2.2, Or.inl ⟨rfl, (by decide +kernel), wt_831, by decide +kernel, (Or.inl wt_830)⟩⟩
theorem t_103_13 : am_ok lw_Ts cX7_row 7 RX7 13 (o_if 27 16 q_eq) := so_if_eq (off := 14) (by decide +kernel) rfl
theorem t_103_16 : am_ok lw_Ts cX7_row 7 RX7 16 (o_il 17 2) := so_il (Or.inl ⟨2, rfl, rfl, rfl⟩) (by decide +kernel)
theorem t_103_17 : am_ok lw_Ts cX7_row 7 RX7 17 (o_k 18 (vI (1))) := so_k (by decide +kernel)
theorem t_103_18 : am_ok lw_Ts cX7_row 7 RX7 18 (o_k 21 (vI (300))) := so_sp rfl (by decide +kernel)
theorem t_103_21 : am_okc gm_mi gm_mt lw_Ts lw_Ns cX7_row RX7 21 70 3 := ⟨114, cf_70.1, cf_70.2.1, cf_70.2.2.1, cf_70.2.2.2, Or.inl ⟨rfl, (by decide +kernel), wt_831, by decide +kernel, (Or.inl wt_830)⟩⟩
theorem t_103_24 : am_ok lw_Ts cX7_row 7 RX7 24 (o_if 29 27 q_ne) := so_if_ne (off := 5) (by decide +kernel) rfl
theorem t_103_27 : am_ok lw_Ts cX7_row 7 RX7 27 (o_k 28 (vI (-1))) := so_k (by decide +kernel)
theorem t_103_28 : am_okr cX7_row 28 1 := (show decode cX7_row 28 = .ok (.ireturn, 1) by decide +kernel)
theorem t_103_29 : am_ok lw_Ts cX7_row 7 RX7 29 (o_al 30 0) := so_al (Or.inl ⟨0, rfl, rfl, rfl⟩) (by decide +kernel)
theorem t_103_30 : am_okc gm_mi gm_mt lw_Ts lw_Ns cX7_row RX7 30 98 1 := ⟨183, cf_98.1, cf_98.2.1, cf_98.2.2.1, cf_98.2.2.2, Or.inr ⟨7, 0, TX7, 37, rfl, rfl, rfl, (by decide +kernel), wt_938, wt_35, wt_936, by decide +kernel⟩⟩
theorem t_103_33 : am_ok lw_Ts cX7_row 7 RX7 33 (o_k 34 (vI (0))) := so_k (by decide +kernel)
theorem t_103_34 : am_ok lw_Ts cX7_row 7 RX7 34 (o_is 35 3) := so_is (Or.inl ⟨3, rfl, rfl, rfl⟩) (by decide +kernel)
theorem t_103_35 : am_ok lw_Ts cX7_row 7 RX7 35 (o_k 36 (vI (1))) := so_k (by decide +kernel)
theorem t_103_36 : am_ok lw_Ts cX7_row 7 RX7 36 (o_is 38 4) := so_is (Or.inr ⟨rfl, rfl⟩) (by decide +kernel)
theorem t_103_38 : am_ok lw_Ts cX7_row 7 RX7 38 (o_il 40 4) := so_il (Or.inr ⟨rfl, rfl⟩) (by decide +kernel)
theorem t_103_40 : am_ok lw_Ts cX7_row 7 RX7 40 (o_k 41 (vI (1))) := so_k (by decide +kernel)
theorem t_103_41 : am_ok lw_Ts cX7_row 7 RX7 41 (o_al 42 0) := so_al (Or.inl ⟨0, rfl, rfl, rfl⟩) (by decide +kernel)
theorem t_103_42 : am_ok lw_Ts cX7_row 7 RX7 42 (o_gf 45 7 19) := so_gf cl_X7 (by decide) wt_728 (by decide +kernel)
theorem t_103_45 : am_ok lw_Ts cX7_row 7 RX7 45 (o_ib 46 f_shl) := so_ishl (by decide +kernel)
theorem t_103_46 : am_ok lw_Ts cX7_row 7 RX7 46 (o_ic 179 49 r_ge) := so_ic_ge (off := 133) (by decide +kernel) rfl
theorem t_103_49 : am_ok lw_Ts cX7_row 7 RX7 49 (o_al 50 0) := so_al (Or.inl ⟨0, rfl, rfl, rfl⟩) (by decide +kernel)
theorem t_103_50 : am_ok lw_Ts cX7_row 7 RX7 50 (o_il 52 4) := so_il (Or.inr ⟨rfl, rfl⟩) (by decide +kernel)
theorem t_103_52 : am_ok lw_Ts cX7_row 7 RX7 52 (o_il 53 1) := so_il (Or.inl ⟨1, rfl, rfl, rfl⟩) (by decide +kernel)
theorem t_103_53 : am_ok lw_Ts cX7_row 7 RX7 53 (o_il 54 2) := so_il (Or.inl ⟨2, rfl, rfl, rfl⟩) (by decide +kernel)
theorem t_103_54 : am_okc gm_mi gm_mt lw_Ts lw_Ns cX7_row RX7 54 99 4 := ⟨186, cf_99.1, cf_99.2.1, cf_99.2.2.1, cf_99.2.2.2, Or.inr ⟨7, 3, TX7, 37, rfl, rfl, rfl, (by decide +kernel), wt_946, wt_37, wt_944, by decide +kernel⟩⟩
theorem t_103_57 : am_ok lw_Ts cX7_row 7 RX7 57 (o_if 63 60 q_ne) := so_if_ne (off := 6) (by decide +kernel) rfl
theorem t_103_60 : am_ok lw_Ts cX7_row 7 RX7 60 (o_go 173) := so_go (off := 113) (by decide +kernel) rfl
theorem t_103_63 : am_ok lw_Ts cX7_row 7 RX7 63 (o_il 64 3) := so_il (Or.inl ⟨3, rfl, rfl, rfl⟩) (by decide +kernel)
theorem t_103_64 : am_ok lw_Ts cX7_row 7 RX7 64 (o_if 71 67 q_ne) := so_if_ne (off := 7) (by decide +kernel) rfl
theorem t_103_67 : am_ok lw_Ts cX7_row 7 RX7 67 (o_k 68 (vI (1))) := so_k (by decide +kernel)
theorem t_103_68 : am_ok lw_Ts cX7_row 7 RX7 68 (o_go 83) := so_go (off := 15) (by decide +kernel) rfl
theorem t_103_71 : am_ok lw_Ts cX7_row 7 RX7 71 (o_al 72 0) := so_al (Or.inl ⟨0, rfl, rfl, rfl⟩) (by decide +kernel)
theorem t_103_72 : am_ok lw_Ts cX7_row 7 RX7 72 (o_il 74 4) := so_il (Or.inr ⟨rfl, rfl⟩) (by decide +kernel)
theorem t_103_74 : am_okc gm_mi gm_mt lw_Ts lw_Ns cX7_row RX7 74 100 2 := ⟨189, cf_100.1, cf_100.2.1, cf_100.2.2.1, cf_100.2.2.2, Or.inr ⟨7, 1, TX7, 37, rfl, rfl, rfl, (by decide +kernel), wt_951, wt_38, wt_949, by decide +kernel⟩⟩
theorem t_103_77 : am_ok lw_Ts cX7_row 7 RX7 77 (o_al 78 0) := so_al (Or.inl ⟨0, rfl, rfl, rfl⟩) (by decide +kernel)
theorem t_103_78 : am_ok lw_Ts cX7_row 7 RX7 78 (o_il 79 3) := so_il (Or.inl ⟨3, rfl, rfl, rfl⟩) (by decide +kernel)
theorem t_103_79 : am_okc gm_mi gm_mt lw_Ts lw_Ns cX7_row RX7 79 100 2 := ⟨189, cf_100.1, cf_100.2.1, cf_100.2.2.1, cf_100.2.2.2, Or.inr ⟨7, 1, TX7, 37, rfl, rfl, rfl, (by decide +kernel), wt_951, wt_38, wt_949, by decide +kernel⟩⟩
theorem t_103_82 : am_ok lw_Ts cX7_row 7 RX7 82 (o_ib 83 f_sub) := so_isub (by decide +kernel)
theorem t_103_83 : am_ok lw_Ts cX7_row 7 RX7 83 (o_is 85 5) := so_is (Or.inr ⟨rfl, rfl⟩) (by decide +kernel)
theorem t_103_85 : am_ok lw_Ts cX7_row 7 RX7 85 (o_il 87 5) := so_il (Or.inr ⟨rfl, rfl⟩) (by decide +kernel)
theorem t_103_87 : am_ok lw_Ts cX7_row 7 RX7 87 (o_if 102 90 q_ne) := so_if_ne (off := 15) (by decide +kernel) rfl
theorem t_103_90 : am_ok lw_Ts cX7_row 7 RX7 90 (o_il 91 3) := so_il (Or.inl ⟨3, rfl, rfl, rfl⟩) (by decide +kernel)
theorem t_103_91 : am_okc gm_mi gm_mt lw_Ts lw_Ns cX7_row RX7 91 112 1 := ⟨128, cf_112.1, cf_112.2.1, cf_112.2.2.1, cf_112.2.2.2, Or.inl ⟨rfl, (by decide +kernel), wt_369, by decide +kernel, (Or.inl wt_873)⟩⟩
theorem t_103_94 : am_ok lw_Ts cX7_row 7 RX7 94 (o_il 96 4) := so_il (Or.inr ⟨rfl, rfl⟩) (by decide +kernel)
theorem t_103_96 : am_okc gm_mi gm_mt lw_Ts lw_Ns cX7_row RX7 96 112 1 := ⟨128, cf_112.1, cf_112.2.1, cf_112.2.2.1, cf_112.2.2.2, Or.inl ⟨rfl, (by decide +kernel), wt_369, by decide +kernel, (Or.inl wt_873)⟩⟩
theorem t_103_99 : am_ok lw_Ts cX7_row 7 RX7 99 (o_ib 100 f_sub) := so_isub (by decide +kernel)
theorem t_103_100 : am_ok lw_Ts cX7_row 7 RX7 100 (o_is 102 5) := so_is (Or.inr ⟨rfl, rfl⟩) (by decide +kernel)
theorem t_103_102 : am_ok lw_Ts cX7_row 7 RX7 102 (o_il 104 5) := so_il (Or.inr ⟨rfl, rfl⟩) (by decide +kernel)
theorem t_103_104 : am_ok lw_Ts cX7_row 7 RX7 104 (o_if 110 107 q_ge) := so_if_ge (off := 6) (by decide +kernel) rfl
theorem t_103_107 : am_ok lw_Ts cX7_row 7 RX7 107 (o_go 173) := so_go (off := 66) (by decide +kernel) rfl
theorem t_103_110 : am_ok lw_Ts cX7_row 7 RX7 110 (o_al 111 0) := so_al (Or.inl ⟨0, rfl, rfl, rfl⟩) (by decide +kernel)
theorem t_103_111 : am_ok lw_Ts cX7_row 7 RX7 111 (o_il 113 4) := so_il (Or.inr ⟨rfl, rfl⟩) (by decide +kernel)
theorem t_103_113 : am_okc gm_mi gm_mt lw_Ts lw_Ns cX7_row RX7 113 101 2 := ⟨192, cf_101.1, cf_101.2.1, cf_101.2.2.1, cf_101.2.2.2, Or.inr ⟨7, 1, TX7, 37, rfl, rfl, rfl, (by decide +kernel), wt_955, wt_39, wt_953, by decide +kernel⟩⟩
theorem t_103_116 : am_ok lw_Ts cX7_row 7 RX7 116 (o_il 118 5) := so_il (Or.inr ⟨rfl, rfl⟩) (by decide +kernel)
theorem t_103_118 : am_ok lw_Ts cX7_row 7 RX7 118 (o_if 140 121 q_ne) := so_if_ne (off := 22) (by decide +kernel) rfl
theorem t_103_121 : am_ok lw_Ts cX7_row 7 RX7 121 (o_al 122 0) := so_al (Or.inl ⟨0, rfl, rfl, rfl⟩) (by decide +kernel)
theorem t_103_122 : am_ok lw_Ts cX7_row 7 RX7 122 (o_il 124 4) := so_il (Or.inr ⟨rfl, rfl⟩) (by decide +kernel)
theorem t_103_124 : am_okc gm_mi gm_mt lw_Ts lw_Ns cX7_row RX7 124 112 1 := ⟨128, cf_112.1, cf_112.2.1, cf_112.2.2.1, cf_112.2.2.2, Or.inl ⟨rfl, (by decide +kernel), wt_369, by decide +kernel, (Or.inl wt_873)⟩⟩
theorem t_103_127 : am_ok lw_Ts cX7_row 7 RX7 127 (o_al 128 0) := so_al (Or.inl ⟨0, rfl, rfl, rfl⟩) (by decide +kernel)
theorem t_103_128 : am_ok lw_Ts cX7_row 7 RX7 128 (o_gf 131 7 36) := so_gf cl_X7 (by decide) wt_745 (by decide +kernel)
theorem t_103_131 : am_okc gm_mi gm_mt lw_Ts lw_Ns cX7_row RX7 131 102 3 := ⟨196, cf_102.1, cf_102.2.1, cf_102.2.2.1, cf_102.2.2.2, Or.inr ⟨7, 2, TX7, 37, rfl, rfl, rfl, (by decide +kernel), wt_959, wt_40, wt_957, by decide +kernel⟩⟩
theorem t_103_134 : am_ok lw_Ts cX7_row 7 RX7 134 (o_if 140 137 q_ne) := so_if_ne (off := 6) (by decide +kernel) rfl
theorem t_103_137 : am_ok lw_Ts cX7_row 7 RX7 137 (o_go 173) := so_go (off := 36) (by decide +kernel) rfl
theorem t_103_140 : am_ok lw_Ts cX7_row 7 RX7 140 (o_il 142 4) := so_il (Or.inr ⟨rfl, rfl⟩) (by decide +kernel)
theorem t_103_142 : am_ok lw_Ts cX7_row 7 RX7 142 (o_is 143 3) := so_is (Or.inl ⟨3, rfl, rfl, rfl⟩) (by decide +kernel)
theorem t_103_143 : am_ok lw_Ts cX7_row 7 RX7 143 (o_k 144 (vI (0))) := so_k (by decide +kernel)
theorem t_103_144 : am_ok lw_Ts cX7_row 7 RX7 144 (o_is 146 6) := so_is (Or.inr ⟨rfl, rfl⟩) (by decide +kernel)
theorem t_103_146 : am_ok lw_Ts cX7_row 7 RX7 146 (o_il 148 6) := so_il (Or.inr ⟨rfl, rfl⟩) (by decide +kernel)
theorem t_103_148 : am_ok lw_Ts cX7_row 7 RX7 148 (o_k 150 (vI (10))) := so_bp rfl (by decide +kernel)
theorem t_103_150 : am_ok lw_Ts cX7_row 7 RX7 150 (o_ic 173 153 r_ge) := so_ic_ge (off := 23) (by decide +kernel) rfl
theorem t_103_153 : am_ok lw_Ts cX7_row 7 RX7 153 (o_al 154 0) := so_al (Or.inl ⟨0, rfl, rfl, rfl⟩) (by decide +kernel)
theorem t_103_154 : am_ok lw_Ts cX7_row 7 RX7 154 (o_gf 157 7 36) := so_gf cl_X7 (by decide) wt_745 (by decide +kernel)
theorem t_103_157 : am_ok lw_Ts cX7_row 7 RX7 157 (o_il 159 6) := so_il (Or.inr ⟨rfl, rfl⟩) (by decide +kernel)
theorem t_103_159 : am_ok lw_Ts cX7_row 7 RX7 159 (o_al 160 0) := so_al (Or.inl ⟨0, rfl, rfl, rfl⟩) (by decide +kernel)
theorem t_103_160 : am_ok lw_Ts cX7_row 7 RX7 160 (o_gf 163 7 35) := so_gf cl_X7 (by decide) wt_744 (by decide +kernel)
theorem t_103_163 : am_ok lw_Ts cX7_row 7 RX7 163 (o_il 165 6) := so_il (Or.inr ⟨rfl, rfl⟩) (by decide +kernel)
theorem t_103_165 : am_ok lw_Ts cX7_row 7 RX7 165 (o_ia 166) := so_ia (by decide +kernel)
theorem t_103_166 : am_ok lw_Ts cX7_row 7 RX7 166 (o_iw 167) := so_iw (by decide +kernel)
theorem t_103_167 : am_ok lw_Ts cX7_row 7 RX7 167 (o_ii 170 6 (1)) := so_ii (by decide +kernel)
theorem t_103_170 : am_ok lw_Ts cX7_row 7 RX7 170 (o_go 146) := so_go (off := (-24)) (by decide +kernel) rfl
theorem t_103_173 : am_ok lw_Ts cX7_row 7 RX7 173 (o_ii 176 4 (1)) := so_ii (by decide +kernel)
theorem t_103_176 : am_ok lw_Ts cX7_row 7 RX7 176 (o_go 38) := so_go (off := (-138)) (by decide +kernel) rfl
theorem t_103_179 : am_ok lw_Ts cX7_row 7 RX7 179 (o_il 180 3) := so_il (Or.inl ⟨3, rfl, rfl, rfl⟩) (by decide +kernel)
theorem t_103_180 : am_ok lw_Ts cX7_row 7 RX7 180 (o_if 185 183 q_ne) := so_if_ne (off := 5) (by decide +kernel) rfl
theorem t_103_183 : am_ok lw_Ts cX7_row 7 RX7 183 (o_k 184 (vI (-1))) := so_k (by decide +kernel)
theorem t_103_184 : am_okr cX7_row 184 1 := (show decode cX7_row 184 = .ok (.ireturn, 1) by decide +kernel)
theorem t_103_185 : am_ok lw_Ts cX7_row 7 RX7 185 (o_al 186 0) := so_al (Or.inl ⟨0, rfl, rfl, rfl⟩) (by decide +kernel)
theorem t_103_186 : am_ok lw_Ts cX7_row 7 RX7 186 (o_il 187 3) := so_il (Or.inl ⟨3, rfl, rfl, rfl⟩) (by decide +kernel)
theorem t_103_187 : am_okc gm_mi gm_mt lw_Ts lw_Ns cX7_row RX7 187 112 1 := ⟨128, cf_112.1, cf_112.2.1, cf_112.2.2.1, cf_112.2.2.2, Or.inl ⟨rfl, (by decide +kernel), wt_369, by decide +kernel, (Or.inl wt_873)⟩⟩
theorem t_103_190 : am_ok lw_Ts cX7_row 7 RX7 190 (o_pf 193 7 21) := so_pf cl_X7 tyX7_ok nmX7 (by decide) rfl rfl wt_730 (by decide +kernel)
theorem t_103_193 : am_ok lw_Ts cX7_row 7 RX7 193 (o_k 194 (vI (0))) := so_k (by decide +kernel)
theorem t_103_194 : am_ok lw_Ts cX7_row 7 RX7 194 (o_is 196 4) := so_is (Or.inr ⟨rfl, rfl⟩) (by decide +kernel)
theorem t_103_196 : am_ok lw_Ts cX7_row 7 RX7 196 (o_il 198 4) := so_il (Or.inr ⟨rfl, rfl⟩) (by decide +kernel)
theorem t_103_198 : am_ok lw_Ts cX7_row 7 RX7 198 (o_al 199 0) := so_al (Or.inl ⟨0, rfl, rfl, rfl⟩) (by decide +kernel)
theorem t_103_199 : am_ok lw_Ts cX7_row 7 RX7 199 (o_gf 202 7 21) := so_gf cl_X7 (by decide) wt_730 (by decide +kernel)
theorem t_103_202 : am_ok lw_Ts cX7_row 7 RX7 202 (o_ic 225 205 r_ge) := so_ic_ge (off := 23) (by decide +kernel) rfl
theorem t_103_205 : am_ok lw_Ts cX7_row 7 RX7 205 (o_al 206 0) := so_al (Or.inl ⟨0, rfl, rfl, rfl⟩) (by decide +kernel)
theorem t_103_206 : am_ok lw_Ts cX7_row 7 RX7 206 (o_gf 209 7 20) := so_gf cl_X7 (by decide) wt_729 (by decide +kernel)
theorem t_103_209 : am_ok lw_Ts cX7_row 7 RX7 209 (o_il 211 4) := so_il (Or.inr ⟨rfl, rfl⟩) (by decide +kernel)
theorem t_103_211 : am_ok lw_Ts cX7_row 7 RX7 211 (o_al 212 0) := so_al (Or.inl ⟨0, rfl, rfl, rfl⟩) (by decide +kernel)
theorem t_103_212 : am_ok lw_Ts cX7_row 7 RX7 212 (o_gf 215 7 36) := so_gf cl_X7 (by decide) wt_745 (by decide +kernel)
theorem t_103_215 : am_ok lw_Ts cX7_row 7 RX7 215 (o_il 217 4) := so_il (Or.inr ⟨rfl, rfl⟩) (by decide +kernel)
theorem t_103_217 : am_ok lw_Ts cX7_row 7 RX7 217 (o_ia 218) := so_ia (by decide +kernel)
theorem t_103_218 : am_ok lw_Ts cX7_row 7 RX7 218 (o_iw 219) := so_iw (by decide +kernel)
theorem t_103_219 : am_ok lw_Ts cX7_row 7 RX7 219 (o_ii 222 4 (1)) := so_ii (by decide +kernel)
theorem t_103_222 : am_ok lw_Ts cX7_row 7 RX7 222 (o_go 196) := so_go (off := (-26)) (by decide +kernel) rfl
theorem t_103_225 : am_ok lw_Ts cX7_row 7 RX7 225 (o_al 226 0) := so_al (Or.inl ⟨0, rfl, rfl, rfl⟩) (by decide +kernel)
theorem t_103_226 : am_ok lw_Ts cX7_row 7 RX7 226 (o_il 227 3) := so_il (Or.inl ⟨3, rfl, rfl, rfl⟩) (by decide +kernel)
theorem t_103_227 : am_okc gm_mi gm_mt lw_Ts lw_Ns cX7_row RX7 227 100 2 := ⟨189, cf_100.1, cf_100.2.1, cf_100.2.2.1, cf_100.2.2.2, Or.inr ⟨7, 1, TX7, 37, rfl, rfl, rfl, (by decide +kernel), wt_951, wt_38, wt_949, by decide +kernel⟩⟩
theorem t_103_230 : am_okr cX7_row 230 1 := (show decode cX7_row 230 = .ok (.ireturn, 1) by decide +kernel)
set_option maxRecDepth 20000 in
theorem ok_103 : am_okL gm_mi gm_mt lw_Ts lw_Ns 103 cd_103 := ⟨t_103_0, t_103_1, t_103_2, t_103_5, t_103_6, t_103_7, t_103_10, t_103_13, t_103_16, t_103_17, t_103_18, t_103_21, t_103_24, t_103_27, t_103_28, t_103_29, t_103_30, t_103_33, t_103_34, t_103_35, t_103_36, t_103_38, t_103_40, t_103_41, t_103_42, t_103_45, t_103_46, t_103_49, t_103_50, t_103_52, t_103_53, t_103_54, t_103_57, t_103_60, t_103_63, t_103_64, t_103_67, t_103_68, t_103_71, t_103_72, t_103_74, t_103_77, t_103_78, t_103_79, t_103_82, t_103_83, t_103_85, t_103_87, t_103_90, t_103_91, t_103_94, t_103_96, t_103_99, t_103_100, t_103_102, t_103_104, t_103_107, t_103_110, t_103_111, t_103_113, t_103_116, t_103_118, t_103_121, t_103_122, t_103_124, t_103_127, t_103_128, t_103_131, t_103_134, t_103_137, t_103_140, t_103_142, t_103_143, t_103_144, t_103_146, t_103_148, t_103_150, t_103_153, t_103_154, t_103_157, t_103_159, t_103_160, t_103_163, t_103_165, t_103_166, t_103_167, t_103_170, t_103_173, t_103_176, t_103_179, t_103_180, t_103_183, t_103_184, t_103_185, t_103_186, t_103_187, t_103_190, t_103_193, t_103_194, t_103_196, t_103_198, t_103_199, t_103_202, t_103_205, t_103_206, t_103_209, t_103_211, t_103_212, t_103_215, t_103_217, t_103_218, t_103_219, t_103_222, t_103_225, t_103_226, t_103_227, t_103_230, trivial⟩
theorem t_104_0 : am_ok lw_Ts cX7_told 2 RX7 0 (o_al 1 0) := so_al (Or.inl ⟨0, rfl, rfl, rfl⟩) (by decide +kernel)
theorem t_104_1 : am_ok lw_Ts cX7_told 2 RX7 1 (o_k 2 (vI (0))) := so_k (by decide +kernel)
theorem t_104_2 : am_ok lw_Ts cX7_told 2 RX7 2 (o_pf 5 7 25) := so_pf cl_X7 tyX7_ok nmX7 (by decide) rfl rfl wt_734 (by decide +kernel)
theorem t_104_5 : am_ok lw_Ts cX7_told 2 RX7 5 (o_il 6 1) := so_il (Or.inl ⟨1, rfl, rfl, rfl⟩) (by decide +kernel)
theorem t_104_6 : am_ok lw_Ts cX7_told 2 RX7 6 (o_k 7 (vI (0))) := so_k (by decide +kernel)
theorem t_104_7 : am_ok lw_Ts cX7_told 2 RX7 7 (o_al 8 0) := so_al (Or.inl ⟨0, rfl, rfl, rfl⟩) (by decide +kernel)
theorem t_104_8 : am_ok lw_Ts cX7_told 2 RX7 8 (o_gf 11 7 21) := so_gf cl_X7 (by decide) wt_730 (by decide +kernel)
theorem t_104_11 : am_ok lw_Ts cX7_told 2 RX7 11 (o_k 12 (vI (1))) := so_k (by decide +kernel)
theorem t_104_12 : am_ok lw_Ts cX7_told 2 RX7 12 (o_ib 13 f_sub) := so_isub (by decide +kernel)
theorem t_104_13 : am_okc gm_mi gm_mt lw_Ts lw_Ns cX7_told RX7 13 70 3 := ⟨114, cf_70.1, cf_70.2.1, cf_70.2.2.1, cf_70.2.2.2, Or.inl ⟨rfl, (by decide +kernel), wt_831, by decide +kernel, (Or.inl wt_830)⟩⟩
theorem t_104_16 : am_ok lw_Ts cX7_told 2 RX7 16 (o_if 28 19 q_eq) := so_if_eq (off := 12) (by decide +kernel) rfl
theorem t_104_19 : am_ok lw_Ts cX7_told 2 RX7 19 (o_al 20 0) := so_al (Or.inl ⟨0, rfl, rfl, rfl⟩) (by decide +kernel)
theorem t_104_20 : am_ok lw_Ts cX7_told 2 RX7 20 (o_gf 23 7 20) := so_gf cl_X7 (by decide) wt_729 (by decide +kernel)
theorem t_104_23 : am_ok lw_Ts cX7_told 2 RX7 23 (o_il 24 1) := so_il (Or.inl ⟨1, rfl, rfl, rfl⟩) (by decide +kernel)
theorem t_104_24 : am_ok lw_Ts cX7_told 2 RX7 24 (o_ia 25) := so_ia (by decide +kernel)
theorem t_104_25 : am_ok lw_Ts cX7_told 2 RX7 25 (o_go 29) := so_go (off := 4) (by decide +kernel) rfl
theorem t_104_28 : am_ok lw_Ts cX7_told 2 RX7 28 (o_k 29 (vI (-1))) := so_k (by decide +kernel)
theorem t_104_29 : am_okr cX7_told 29 1 := (show decode cX7_told 29 = .ok (.ireturn, 1) by decide +kernel)
set_option maxRecDepth 20000 in
theorem ok_104 : am_okL gm_mi gm_mt lw_Ts lw_Ns 104 cd_104 := ⟨t_104_0, t_104_1, t_104_2, t_104_5, t_104_6, t_104_7, t_104_8, t_104_11, t_104_12, t_104_13, t_104_16, t_104_19, t_104_20, t_104_23, t_104_24, t_104_25, t_104_28, t_104_29, trivial⟩
theorem t_105_0 : am_ok lw_Ts cX7_vote 4 RX7 0 (o_al 1 0) := so_al (Or.inl ⟨0, rfl, rfl, rfl⟩) (by decide +kernel)
theorem t_105_1 : am_ok lw_Ts cX7_vote 4 RX7 1 (o_k 2 (vI (0))) := so_k (by decide +kernel)
theorem t_105_2 : am_ok lw_Ts cX7_vote 4 RX7 2 (o_pf 5 7 25) := so_pf cl_X7 tyX7_ok nmX7 (by decide) rfl rfl wt_734 (by decide +kernel)
theorem t_105_5 : am_ok lw_Ts cX7_vote 4 RX7 5 (o_il 6 1) := so_il (Or.inl ⟨1, rfl, rfl, rfl⟩) (by decide +kernel)
theorem t_105_6 : am_ok lw_Ts cX7_vote 4 RX7 6 (o_k 7 (vI (0))) := so_k (by decide +kernel)
theorem t_105_7 : am_ok lw_Ts cX7_vote 4 RX7 7 (o_k 9 (vI (6))) := so_bp rfl (by decide +kernel)
theorem t_105_9 : am_okc gm_mi gm_mt lw_Ts lw_Ns cX7_vote RX7 9 70 3 := ⟨114, cf_70.1, cf_70.2.1, cf_70.2.2.1, cf_70.2.2.2, Or.inl ⟨rfl, (by decide +kernel), wt_831, by decide +kernel, (Or.inl wt_830)⟩⟩
theorem t_105_12 : am_ok lw_Ts cX7_vote 4 RX7 12 (o_if 23 15 q_eq) := so_if_eq (off := 11) (by decide +kernel) rfl
theorem t_105_15 : am_ok lw_Ts cX7_vote 4 RX7 15 (o_al 16 0) := so_al (Or.inl ⟨0, rfl, rfl, rfl⟩) (by decide +kernel)
theorem t_105_16 : am_ok lw_Ts cX7_vote 4 RX7 16 (o_il 17 2) := so_il (Or.inl ⟨2, rfl, rfl, rfl⟩) (by decide +kernel)
theorem t_105_17 : am_okc gm_mi gm_mt lw_Ts lw_Ns cX7_vote RX7 17 73 2 := ⟨121, cf_73.1, cf_73.2.1, cf_73.2.2.1, cf_73.2.2.2, Or.inr ⟨7, 1, TX7, 37, rfl, rfl, rfl, (by decide +kernel), wt_843, wt_26, wt_841, by decide +kernel⟩⟩
theorem t_105_20 : am_ok lw_Ts cX7_vote 4 RX7 20 (o_if 25 23 q_ne) := so_if_ne (off := 5) (by decide +kernel) rfl
theorem t_105_23 : am_ok lw_Ts cX7_vote 4 RX7 23 (o_k 24 (vI (-1))) := so_k (by decide +kernel)
theorem t_105_24 : am_okr cX7_vote 24 1 := (show decode cX7_vote 24 = .ok (.ireturn, 1) by decide +kernel)
theorem t_105_25 : am_ok lw_Ts cX7_vote 4 RX7 25 (o_k 26 (vI (0))) := so_k (by decide +kernel)
theorem t_105_26 : am_ok lw_Ts cX7_vote 4 RX7 26 (o_is 27 3) := so_is (Or.inl ⟨3, rfl, rfl, rfl⟩) (by decide +kernel)
theorem t_105_27 : am_ok lw_Ts cX7_vote 4 RX7 27 (o_il 28 3) := so_il (Or.inl ⟨3, rfl, rfl, rfl⟩) (by decide +kernel)
theorem t_105_28 : am_ok lw_Ts cX7_vote 4 RX7 28 (o_al 29 0) := so_al (Or.inl ⟨0, rfl, rfl, rfl⟩) (by decide +kernel)
theorem t_105_29 : am_ok lw_Ts cX7_vote 4 RX7 29 (o_gf 32 7 23) := so_gf cl_X7 (by decide) wt_732 (by decide +kernel)
theorem t_105_32 : am_ok lw_Ts cX7_vote 4 RX7 32 (o_il 33 1) := so_il (Or.inl ⟨1, rfl, rfl, rfl⟩) (by decide +kernel)
theorem t_105_33 : am_ok lw_Ts cX7_vote 4 RX7 33 (o_ia 34) := so_ia (by decide +kernel)
theorem t_105_34 : am_ok lw_Ts cX7_vote 4 RX7 34 (o_ic 60 37 r_ge) := so_ic_ge (off := 26) (by decide +kernel) rfl
theorem t_105_37 : am_ok lw_Ts cX7_vote 4 RX7 37 (o_al 38 0) := so_al (Or.inl ⟨0, rfl, rfl, rfl⟩) (by decide +kernel)
theorem t_105_38 : am_ok lw_Ts cX7_vote 4 RX7 38 (o_gf 41 7 22) := so_gf cl_X7 (by decide) wt_731 (by decide +kernel)
theorem t_105_41 : am_ok lw_Ts cX7_vote 4 RX7 41 (o_k 43 (vI (6))) := so_bp rfl (by decide +kernel)
theorem t_105_43 : am_ok lw_Ts cX7_vote 4 RX7 43 (o_il 44 1) := so_il (Or.inl ⟨1, rfl, rfl, rfl⟩) (by decide +kernel)
theorem t_105_44 : am_ok lw_Ts cX7_vote 4 RX7 44 (o_ib 45 f_mul) := so_imul (by decide +kernel)
theorem t_105_45 : am_ok lw_Ts cX7_vote 4 RX7 45 (o_il 46 3) := so_il (Or.inl ⟨3, rfl, rfl, rfl⟩) (by decide +kernel)
theorem t_105_46 : am_ok lw_Ts cX7_vote 4 RX7 46 (o_ib 47 f_add) := so_iadd (by decide +kernel)
theorem t_105_47 : am_ok lw_Ts cX7_vote 4 RX7 47 (o_ia 48) := so_ia (by decide +kernel)
theorem t_105_48 : am_ok lw_Ts cX7_vote 4 RX7 48 (o_il 49 2) := so_il (Or.inl ⟨2, rfl, rfl, rfl⟩) (by decide +kernel)
theorem t_105_49 : am_ok lw_Ts cX7_vote 4 RX7 49 (o_ic 54 52 r_ne) := so_ic_ne (off := 5) (by decide +kernel) rfl
theorem t_105_52 : am_ok lw_Ts cX7_vote 4 RX7 52 (o_k 53 (vI (-1))) := so_k (by decide +kernel)
theorem t_105_53 : am_okr cX7_vote 53 1 := (show decode cX7_vote 53 = .ok (.ireturn, 1) by decide +kernel)
theorem t_105_54 : am_ok lw_Ts cX7_vote 4 RX7 54 (o_ii 57 3 (1)) := so_ii (by decide +kernel)
theorem t_105_57 : am_ok lw_Ts cX7_vote 4 RX7 57 (o_go 27) := so_go (off := (-30)) (by decide +kernel) rfl
theorem t_105_60 : am_ok lw_Ts cX7_vote 4 RX7 60 (o_al 61 0) := so_al (Or.inl ⟨0, rfl, rfl, rfl⟩) (by decide +kernel)
theorem t_105_61 : am_ok lw_Ts cX7_vote 4 RX7 61 (o_gf 64 7 22) := so_gf cl_X7 (by decide) wt_731 (by decide +kernel)
theorem t_105_64 : am_ok lw_Ts cX7_vote 4 RX7 64 (o_k 66 (vI (6))) := so_bp rfl (by decide +kernel)
theorem t_105_66 : am_ok lw_Ts cX7_vote 4 RX7 66 (o_il 67 1) := so_il (Or.inl ⟨1, rfl, rfl, rfl⟩) (by decide +kernel)
theorem t_105_67 : am_ok lw_Ts cX7_vote 4 RX7 67 (o_ib 68 f_mul) := so_imul (by decide +kernel)
theorem t_105_68 : am_ok lw_Ts cX7_vote 4 RX7 68 (o_al 69 0) := so_al (Or.inl ⟨0, rfl, rfl, rfl⟩) (by decide +kernel)
theorem t_105_69 : am_ok lw_Ts cX7_vote 4 RX7 69 (o_gf 72 7 23) := so_gf cl_X7 (by decide) wt_732 (by decide +kernel)
theorem t_105_72 : am_ok lw_Ts cX7_vote 4 RX7 72 (o_il 73 1) := so_il (Or.inl ⟨1, rfl, rfl, rfl⟩) (by decide +kernel)
theorem t_105_73 : am_ok lw_Ts cX7_vote 4 RX7 73 (o_ia 74) := so_ia (by decide +kernel)
theorem t_105_74 : am_ok lw_Ts cX7_vote 4 RX7 74 (o_ib 75 f_add) := so_iadd (by decide +kernel)
theorem t_105_75 : am_ok lw_Ts cX7_vote 4 RX7 75 (o_il 76 2) := so_il (Or.inl ⟨2, rfl, rfl, rfl⟩) (by decide +kernel)
theorem t_105_76 : am_ok lw_Ts cX7_vote 4 RX7 76 (o_iw 77) := so_iw (by decide +kernel)
theorem t_105_77 : am_ok lw_Ts cX7_vote 4 RX7 77 (o_al 78 0) := so_al (Or.inl ⟨0, rfl, rfl, rfl⟩) (by decide +kernel)
theorem t_105_78 : am_ok lw_Ts cX7_vote 4 RX7 78 (o_gf 81 7 23) := so_gf cl_X7 (by decide) wt_732 (by decide +kernel)
theorem t_105_81 : am_ok lw_Ts cX7_vote 4 RX7 81 (o_il 82 1) := so_il (Or.inl ⟨1, rfl, rfl, rfl⟩) (by decide +kernel)
theorem t_105_82 : am_ok lw_Ts cX7_vote 4 RX7 82 (o_dup2 83) := so_dup2 (by decide +kernel)
theorem t_105_83 : am_ok lw_Ts cX7_vote 4 RX7 83 (o_ia 84) := so_ia (by decide +kernel)
theorem t_105_84 : am_ok lw_Ts cX7_vote 4 RX7 84 (o_k 85 (vI (1))) := so_k (by decide +kernel)
theorem t_105_85 : am_ok lw_Ts cX7_vote 4 RX7 85 (o_ib 86 f_add) := so_iadd (by decide +kernel)
theorem t_105_86 : am_ok lw_Ts cX7_vote 4 RX7 86 (o_iw 87) := so_iw (by decide +kernel)
theorem t_105_87 : am_ok lw_Ts cX7_vote 4 RX7 87 (o_al 88 0) := so_al (Or.inl ⟨0, rfl, rfl, rfl⟩) (by decide +kernel)
theorem t_105_88 : am_ok lw_Ts cX7_vote 4 RX7 88 (o_gf 91 7 23) := so_gf cl_X7 (by decide) wt_732 (by decide +kernel)
theorem t_105_91 : am_ok lw_Ts cX7_vote 4 RX7 91 (o_il 92 1) := so_il (Or.inl ⟨1, rfl, rfl, rfl⟩) (by decide +kernel)
theorem t_105_92 : am_ok lw_Ts cX7_vote 4 RX7 92 (o_ia 93) := so_ia (by decide +kernel)
theorem t_105_93 : am_okr cX7_vote 93 1 := (show decode cX7_vote 93 = .ok (.ireturn, 1) by decide +kernel)
set_option maxRecDepth 20000 in
theorem ok_105 : am_okL gm_mi gm_mt lw_Ts lw_Ns 105 cd_105 := ⟨t_105_0, t_105_1, t_105_2, t_105_5, t_105_6, t_105_7, t_105_9, t_105_12, t_105_15, t_105_16, t_105_17, t_105_20, t_105_23, t_105_24, t_105_25, t_105_26, t_105_27, t_105_28, t_105_29, t_105_32, t_105_33, t_105_34, t_105_37, t_105_38, t_105_41, t_105_43, t_105_44, t_105_45, t_105_46, t_105_47, t_105_48, t_105_49, t_105_52, t_105_53, t_105_54, t_105_57, t_105_60, t_105_61, t_105_64, t_105_66, t_105_67, t_105_68, t_105_69, t_105_72, t_105_73, t_105_74, t_105_75, t_105_76, t_105_77, t_105_78, t_105_81, t_105_82, t_105_83, t_105_84, t_105_85, t_105_86, t_105_87, t_105_88, t_105_91, t_105_92, t_105_93, trivial⟩
theorem t_106_0 : am_ok lw_Ts cX7_kin 4 RX7 0 (o_al 1 0) := so_al (Or.inl ⟨0, rfl, rfl, rfl⟩) (by decide +kernel)
theorem t_106_1 : am_ok lw_Ts cX7_kin 4 RX7 1 (o_k 2 (vI (0))) := so_k (by decide +kernel)
theorem t_106_2 : am_ok lw_Ts cX7_kin 4 RX7 2 (o_pf 5 7 25) := so_pf cl_X7 tyX7_ok nmX7 (by decide) rfl rfl wt_734 (by decide +kernel)
theorem t_106_5 : am_ok lw_Ts cX7_kin 4 RX7 5 (o_il 6 1) := so_il (Or.inl ⟨1, rfl, rfl, rfl⟩) (by decide +kernel)
theorem t_106_6 : am_ok lw_Ts cX7_kin 4 RX7 6 (o_k 7 (vI (0))) := so_k (by decide +kernel)
theorem t_106_7 : am_ok lw_Ts cX7_kin 4 RX7 7 (o_k 9 (vI (6))) := so_bp rfl (by decide +kernel)
theorem t_106_9 : am_okc gm_mi gm_mt lw_Ts lw_Ns cX7_kin RX7 9 70 3 := ⟨114, cf_70.1, cf_70.2.1, cf_70.2.2.1, cf_70.2.2.2, Or.inl ⟨rfl, (by decide +kernel), wt_831, by decide +kernel, (Or.inl wt_830)⟩⟩
theorem t_106_12 : am_ok lw_Ts cX7_kin 4 RX7 12 (o_if 23 15 q_eq) := so_if_eq (off := 11) (by decide +kernel) rfl
theorem t_106_15 : am_ok lw_Ts cX7_kin 4 RX7 15 (o_al 16 0) := so_al (Or.inl ⟨0, rfl, rfl, rfl⟩) (by decide +kernel)
theorem t_106_16 : am_ok lw_Ts cX7_kin 4 RX7 16 (o_il 17 2) := so_il (Or.inl ⟨2, rfl, rfl, rfl⟩) (by decide +kernel)
theorem t_106_17 : am_okc gm_mi gm_mt lw_Ts lw_Ns cX7_kin RX7 17 73 2 := ⟨121, cf_73.1, cf_73.2.1, cf_73.2.2.1, cf_73.2.2.2, Or.inr ⟨7, 1, TX7, 37, rfl, rfl, rfl, (by decide +kernel), wt_843, wt_26, wt_841, by decide +kernel⟩⟩
theorem t_106_20 : am_ok lw_Ts cX7_kin 4 RX7 20 (o_if 25 23 q_ne) := so_if_ne (off := 5) (by decide +kernel) rfl
theorem t_106_23 : am_ok lw_Ts cX7_kin 4 RX7 23 (o_k 24 (vI (0))) := so_k (by decide +kernel)
theorem t_106_24 : am_okr cX7_kin 24 2 := (show decode cX7_kin 24 = .ok (.ireturn, 1) by decide +kernel)
theorem t_106_25 : am_ok lw_Ts cX7_kin 4 RX7 25 (o_al 26 0) := so_al (Or.inl ⟨0, rfl, rfl, rfl⟩) (by decide +kernel)
theorem t_106_26 : am_ok lw_Ts cX7_kin 4 RX7 26 (o_gf 29 7 24) := so_gf cl_X7 (by decide) wt_733 (by decide +kernel)
theorem t_106_29 : am_ok lw_Ts cX7_kin 4 RX7 29 (o_k 31 (vI (6))) := so_bp rfl (by decide +kernel)
theorem t_106_31 : am_ok lw_Ts cX7_kin 4 RX7 31 (o_il 32 1) := so_il (Or.inl ⟨1, rfl, rfl, rfl⟩) (by decide +kernel)
theorem t_106_32 : am_ok lw_Ts cX7_kin 4 RX7 32 (o_ib 33 f_mul) := so_imul (by decide +kernel)
theorem t_106_33 : am_ok lw_Ts cX7_kin 4 RX7 33 (o_il 34 2) := so_il (Or.inl ⟨2, rfl, rfl, rfl⟩) (by decide +kernel)
theorem t_106_34 : am_ok lw_Ts cX7_kin 4 RX7 34 (o_ib 35 f_add) := so_iadd (by decide +kernel)
theorem t_106_35 : am_ok lw_Ts cX7_kin 4 RX7 35 (o_il 36 3) := so_il (Or.inl ⟨3, rfl, rfl, rfl⟩) (by decide +kernel)
theorem t_106_36 : am_ok lw_Ts cX7_kin 4 RX7 36 (o_bw 37) := so_bw (by decide +kernel)
theorem t_106_37 : am_ok lw_Ts cX7_kin 4 RX7 37 (o_k 38 (vI (1))) := so_k (by decide +kernel)
theorem t_106_38 : am_okr cX7_kin 38 2 := (show decode cX7_kin 38 = .ok (.ireturn, 1) by decide +kernel)
set_option maxRecDepth 20000 in
theorem ok_106 : am_okL gm_mi gm_mt lw_Ts lw_Ns 106 cd_106 := ⟨t_106_0, t_106_1, t_106_2, t_106_5, t_106_6, t_106_7, t_106_9, t_106_12, t_106_15, t_106_16, t_106_17, t_106_20, t_106_23, t_106_24, t_106_25, t_106_26, t_106_29, t_106_31, t_106_32, t_106_33, t_106_34, t_106_35, t_106_36, t_106_37, t_106_38, trivial⟩
theorem t_107_0 : am_ok lw_Ts cX7_pointsOf 8 RX7 0 (o_k 1 (vI (0))) := so_k (by decide +kernel)
theorem t_107_1 : am_ok lw_Ts cX7_pointsOf 8 RX7 1 (o_is 2 2) := so_is (Or.inl ⟨2, rfl, rfl, rfl⟩) (by decide +kernel)
theorem t_107_2 : am_ok lw_Ts cX7_pointsOf 8 RX7 2 (o_k 3 (vI (0))) := so_k (by decide +kernel)
theorem t_107_3 : am_ok lw_Ts cX7_pointsOf 8 RX7 3 (o_is 4 3) := so_is (Or.inl ⟨3, rfl, rfl, rfl⟩) (by decide +kernel)
theorem t_107_4 : am_ok lw_Ts cX7_pointsOf 8 RX7 4 (o_il 5 3) := so_il (Or.inl ⟨3, rfl, rfl, rfl⟩) (by decide +kernel)
theorem t_107_5 : am_ok lw_Ts cX7_pointsOf 8 RX7 5 (o_k 7 (vI (7))) := so_bp rfl (by decide +kernel)
theorem t_107_7 : am_ok lw_Ts cX7_pointsOf 8 RX7 7 (o_ic 134 10 r_ge) := so_ic_ge (off := 127) (by decide +kernel) rfl
theorem t_107_10 : am_ok lw_Ts cX7_pointsOf 8 RX7 10 (o_al 11 0) := so_al (Or.inl ⟨0, rfl, rfl, rfl⟩) (by decide +kernel)
theorem t_107_11 : am_ok lw_Ts cX7_pointsOf 8 RX7 11 (o_gf 14 7 24) := so_gf cl_X7 (by decide) wt_733 (by decide +kernel)
theorem t_107_14 : am_ok lw_Ts cX7_pointsOf 8 RX7 14 (o_k 16 (vI (6))) := so_bp rfl (by decide +kernel)
theorem t_107_16 : am_ok lw_Ts cX7_pointsOf 8 RX7 16 (o_il 17 3) := so_il (Or.inl ⟨3, rfl, rfl, rfl⟩) (by decide +kernel)
theorem t_107_17 : am_ok lw_Ts cX7_pointsOf 8 RX7 17 (o_ib 18 f_mul) := so_imul (by decide +kernel)
theorem t_107_18 : am_ok lw_Ts cX7_pointsOf 8 RX7 18 (o_il 19 1) := so_il (Or.inl ⟨1, rfl, rfl, rfl⟩) (by decide +kernel)
theorem t_107_19 : am_ok lw_Ts cX7_pointsOf 8 RX7 19 (o_ib 20 f_add) := so_iadd (by decide +kernel)
theorem t_107_20 : am_ok lw_Ts cX7_pointsOf 8 RX7 20 (o_ba 21) := so_ba (by decide +kernel)
theorem t_107_21 : am_ok lw_Ts cX7_pointsOf 8 RX7 21 (o_if 27 24 q_eq) := so_if_eq (off := 6) (by decide +kernel) rfl
theorem t_107_24 : am_ok lw_Ts cX7_pointsOf 8 RX7 24 (o_go 128) := so_go (off := 104) (by decide +kernel) rfl
theorem t_107_27 : am_ok lw_Ts cX7_pointsOf 8 RX7 27 (o_k 28 (vI (0))) := so_k (by decide +kernel)
theorem t_107_28 : am_ok lw_Ts cX7_pointsOf 8 RX7 28 (o_is 30 4) := so_is (Or.inr ⟨rfl, rfl⟩) (by decide +kernel)
theorem t_107_30 : am_ok lw_Ts cX7_pointsOf 8 RX7 30 (o_k 31 (vI (0))) := so_k (by decide +kernel)
theorem t_107_31 : am_ok lw_Ts cX7_pointsOf 8 RX7 31 (o_is 33 5) := so_is (Or.inr ⟨rfl, rfl⟩) (by decide +kernel)
theorem t_107_33 : am_ok lw_Ts cX7_pointsOf 8 RX7 33 (o_k 34 (vI (0))) := so_k (by decide +kernel)
theorem t_107_34 : am_ok lw_Ts cX7_pointsOf 8 RX7 34 (o_is 36 6) := so_is (Or.inr ⟨rfl, rfl⟩) (by decide +kernel)
theorem t_107_36 : am_ok lw_Ts cX7_pointsOf 8 RX7 36 (o_il 38 6) := so_il (Or.inr ⟨rfl, rfl⟩) (by decide +kernel)
theorem t_107_38 : am_ok lw_Ts cX7_pointsOf 8 RX7 38 (o_al 39 0) := so_al (Or.inl ⟨0, rfl, rfl, rfl⟩) (by decide +kernel)
theorem t_107_39 : am_ok lw_Ts cX7_pointsOf 8 RX7 39 (o_gf 42 7 23) := so_gf cl_X7 (by decide) wt_732 (by decide +kernel)
theorem t_107_42 : am_ok lw_Ts cX7_pointsOf 8 RX7 42 (o_il 43 3) := so_il (Or.inl ⟨3, rfl, rfl, rfl⟩) (by decide +kernel)
theorem t_107_43 : am_ok lw_Ts cX7_pointsOf 8 RX7 43 (o_ia 44) := so_ia (by decide +kernel)
theorem t_107_44 : am_ok lw_Ts cX7_pointsOf 8 RX7 44 (o_ic 108 47 r_ge) := so_ic_ge (off := 64) (by decide +kernel) rfl
theorem t_107_47 : am_ok lw_Ts cX7_pointsOf 8 RX7 47 (o_il 49 5) := so_il (Or.inr ⟨rfl, rfl⟩) (by decide +kernel)
theorem t_107_49 : am_ok lw_Ts cX7_pointsOf 8 RX7 49 (o_if 108 52 q_ne) := so_if_ne (off := 59) (by decide +kernel) rfl
theorem t_107_52 : am_ok lw_Ts cX7_pointsOf 8 RX7 52 (o_al 53 0) := so_al (Or.inl ⟨0, rfl, rfl, rfl⟩) (by decide +kernel)
theorem t_107_53 : am_ok lw_Ts cX7_pointsOf 8 RX7 53 (o_gf 56 7 22) := so_gf cl_X7 (by decide) wt_731 (by decide +kernel)
theorem t_107_56 : am_ok lw_Ts cX7_pointsOf 8 RX7 56 (o_k 58 (vI (6))) := so_bp rfl (by decide +kernel)
theorem t_107_58 : am_ok lw_Ts cX7_pointsOf 8 RX7 58 (o_il 59 3) := so_il (Or.inl ⟨3, rfl, rfl, rfl⟩) (by decide +kernel)
theorem t_107_59 : am_ok lw_Ts cX7_pointsOf 8 RX7 59 (o_ib 60 f_mul) := so_imul (by decide +kernel)
theorem t_107_60 : am_ok lw_Ts cX7_pointsOf 8 RX7 60 (o_il 62 6) := so_il (Or.inr ⟨rfl, rfl⟩) (by decide +kernel)
theorem t_107_62 : am_ok lw_Ts cX7_pointsOf 8 RX7 62 (o_ib 63 f_add) := so_iadd (by decide +kernel)
theorem t_107_63 : am_ok lw_Ts cX7_pointsOf 8 RX7 63 (o_ia 64) := so_ia (by decide +kernel)
theorem t_107_64 : am_ok lw_Ts cX7_pointsOf 8 RX7 64 (o_is 66 7) := so_is (Or.inr ⟨rfl, rfl⟩) (by decide +kernel)
theorem t_107_66 : am_ok lw_Ts cX7_pointsOf 8 RX7 66 (o_il 68 7) := so_il (Or.inr ⟨rfl, rfl⟩) (by decide +kernel)
theorem t_107_68 : am_ok lw_Ts cX7_pointsOf 8 RX7 68 (o_il 69 1) := so_il (Or.inl ⟨1, rfl, rfl, rfl⟩) (by decide +kernel)
theorem t_107_69 : am_ok lw_Ts cX7_pointsOf 8 RX7 69 (o_ic 76 72 r_ne) := so_ic_ne (off := 7) (by decide +kernel) rfl
theorem t_107_72 : am_ok lw_Ts cX7_pointsOf 8 RX7 72 (o_k 73 (vI (1))) := so_k (by decide +kernel)
theorem t_107_73 : am_ok lw_Ts cX7_pointsOf 8 RX7 73 (o_go 77) := so_go (off := 4) (by decide +kernel) rfl
theorem t_107_76 : am_ok lw_Ts cX7_pointsOf 8 RX7 76 (o_k 77 (vI (0))) := so_k (by decide +kernel)
theorem t_107_77 : am_ok lw_Ts cX7_pointsOf 8 RX7 77 (o_is 79 5) := so_is (Or.inr ⟨rfl, rfl⟩) (by decide +kernel)
theorem t_107_79 : am_ok lw_Ts cX7_pointsOf 8 RX7 79 (o_il 81 5) := so_il (Or.inr ⟨rfl, rfl⟩) (by decide +kernel)
theorem t_107_81 : am_ok lw_Ts cX7_pointsOf 8 RX7 81 (o_if 102 84 q_ne) := so_if_ne (off := 21) (by decide +kernel) rfl
theorem t_107_84 : am_ok lw_Ts cX7_pointsOf 8 RX7 84 (o_al 85 0) := so_al (Or.inl ⟨0, rfl, rfl, rfl⟩) (by decide +kernel)
theorem t_107_85 : am_ok lw_Ts cX7_pointsOf 8 RX7 85 (o_gf 88 7 24) := so_gf cl_X7 (by decide) wt_733 (by decide +kernel)
theorem t_107_88 : am_ok lw_Ts cX7_pointsOf 8 RX7 88 (o_k 90 (vI (6))) := so_bp rfl (by decide +kernel)
theorem t_107_90 : am_ok lw_Ts cX7_pointsOf 8 RX7 90 (o_il 91 3) := so_il (Or.inl ⟨3, rfl, rfl, rfl⟩) (by decide +kernel)
theorem t_107_91 : am_ok lw_Ts cX7_pointsOf 8 RX7 91 (o_ib 92 f_mul) := so_imul (by decide +kernel)
theorem t_107_92 : am_ok lw_Ts cX7_pointsOf 8 RX7 92 (o_il 94 7) := so_il (Or.inr ⟨rfl, rfl⟩) (by decide +kernel)
theorem t_107_94 : am_ok lw_Ts cX7_pointsOf 8 RX7 94 (o_ib 95 f_add) := so_iadd (by decide +kernel)
theorem t_107_95 : am_ok lw_Ts cX7_pointsOf 8 RX7 95 (o_ba 96) := so_ba (by decide +kernel)
theorem t_107_96 : am_ok lw_Ts cX7_pointsOf 8 RX7 96 (o_if 102 99 q_ne) := so_if_ne (off := 6) (by decide +kernel) rfl
theorem t_107_99 : am_ok lw_Ts cX7_pointsOf 8 RX7 99 (o_ii 102 4 (1)) := so_ii (by decide +kernel)
theorem t_107_102 : am_ok lw_Ts cX7_pointsOf 8 RX7 102 (o_ii 105 6 (1)) := so_ii (by decide +kernel)
theorem t_107_105 : am_ok lw_Ts cX7_pointsOf 8 RX7 105 (o_go 36) := so_go (off := (-69)) (by decide +kernel) rfl
theorem t_107_108 : am_ok lw_Ts cX7_pointsOf 8 RX7 108 (o_il 110 5) := so_il (Or.inr ⟨rfl, rfl⟩) (by decide +kernel)
theorem t_107_110 : am_ok lw_Ts cX7_pointsOf 8 RX7 110 (o_if 128 113 q_eq) := so_if_eq (off := 18) (by decide +kernel) rfl
theorem t_107_113 : am_ok lw_Ts cX7_pointsOf 8 RX7 113 (o_il 115 4) := so_il (Or.inr ⟨rfl, rfl⟩) (by decide +kernel)
theorem t_107_115 : am_ok lw_Ts cX7_pointsOf 8 RX7 115 (o_k 117 (vI (6))) := so_bp rfl (by decide +kernel)
theorem t_107_117 : am_ok lw_Ts cX7_pointsOf 8 RX7 117 (o_ic 128 120 r_ge) := so_ic_ge (off := 11) (by decide +kernel) rfl
theorem t_107_120 : am_ok lw_Ts cX7_pointsOf 8 RX7 120 (o_il 121 2) := so_il (Or.inl ⟨2, rfl, rfl, rfl⟩) (by decide +kernel)
theorem t_107_121 : am_ok lw_Ts cX7_pointsOf 8 RX7 121 (o_k 123 (vI (6))) := so_bp rfl (by decide +kernel)
theorem t_107_123 : am_ok lw_Ts cX7_pointsOf 8 RX7 123 (o_il 125 4) := so_il (Or.inr ⟨rfl, rfl⟩) (by decide +kernel)
theorem t_107_125 : am_ok lw_Ts cX7_pointsOf 8 RX7 125 (o_ib 126 f_sub) := so_isub (by decide +kernel)
theorem t_107_126 : am_ok lw_Ts cX7_pointsOf 8 RX7 126 (o_ib 127 f_add) := so_iadd (by decide +kernel)
theorem t_107_127 : am_ok lw_Ts cX7_pointsOf 8 RX7 127 (o_is 128 2) := so_is (Or.inl ⟨2, rfl, rfl, rfl⟩) (by decide +kernel)
theorem t_107_128 : am_ok lw_Ts cX7_pointsOf 8 RX7 128 (o_ii 131 3 (1)) := so_ii (by decide +kernel)
theorem t_107_131 : am_ok lw_Ts cX7_pointsOf 8 RX7 131 (o_go 4) := so_go (off := (-127)) (by decide +kernel) rfl
theorem t_107_134 : am_ok lw_Ts cX7_pointsOf 8 RX7 134 (o_il 135 2) := so_il (Or.inl ⟨2, rfl, rfl, rfl⟩) (by decide +kernel)
theorem t_107_135 : am_okr cX7_pointsOf 135 1 := (show decode cX7_pointsOf 135 = .ok (.ireturn, 1) by decide +kernel)
set_option maxRecDepth 20000 in
theorem ok_107 : am_okL gm_mi gm_mt lw_Ts lw_Ns 107 cd_107 := ⟨t_107_0, t_107_1, t_107_2, t_107_3, t_107_4, t_107_5, t_107_7, t_107_10, t_107_11, t_107_14, t_107_16, t_107_17, t_107_18, t_107_19, t_107_20, t_107_21, t_107_24, t_107_27, t_107_28, t_107_30, t_107_31, t_107_33, t_107_34, t_107_36, t_107_38, t_107_39, t_107_42, t_107_43, t_107_44, t_107_47, t_107_49, t_107_52, t_107_53, t_107_56, t_107_58, t_107_59, t_107_60, t_107_62, t_107_63, t_107_64, t_107_66, t_107_68, t_107_69, t_107_72, t_107_73, t_107_76, t_107_77, t_107_79, t_107_81, t_107_84, t_107_85, t_107_88, t_107_90, t_107_91, t_107_92, t_107_94, t_107_95, t_107_96, t_107_99, t_107_102, t_107_105, t_107_108, t_107_110, t_107_113, t_107_115, t_107_117, t_107_120, t_107_121, t_107_123, t_107_125, t_107_126, t_107_127, t_107_128, t_107_131, t_107_134, t_107_135, trivial⟩
theorem t_108_0 : am_ok lw_Ts cX7_points 2 RX7 0 (o_al 1 0) := so_al (Or.inl ⟨0, rfl, rfl, rfl⟩) (by decide +kernel)
theorem t_108_1 : am_ok lw_Ts cX7_points 2 RX7 1 (o_k 2 (vI (0))) := so_k (by decide +kernel)
theorem t_108_2 : am_ok lw_Ts cX7_points 2 RX7 2 (o_pf 5 7 25) := so_pf cl_X7 tyX7_ok nmX7 (by decide) rfl rfl wt_734 (by decide +kernel)
theorem t_108_5 : am_ok lw_Ts cX7_points 2 RX7 5 (o_al 6 0) := so_al (Or.inl ⟨0, rfl, rfl, rfl⟩) (by decide +kernel)
theorem t_108_6 : am_ok lw_Ts cX7_points 2 RX7 6 (o_il 7 1) := so_il (Or.inl ⟨1, rfl, rfl, rfl⟩) (by decide +kernel)
theorem t_108_7 : am_okc gm_mi gm_mt lw_Ts lw_Ns cX7_points RX7 7 73 2 := ⟨121, cf_73.1, cf_73.2.1, cf_73.2.2.1, cf_73.2.2.2, Or.inr ⟨7, 1, TX7, 37, rfl, rfl, rfl, (by decide +kernel), wt_843, wt_26, wt_841, by decide +kernel⟩⟩
theorem t_108_10 : am_ok lw_Ts cX7_points 2 RX7 10 (o_if 21 13 q_eq) := so_if_eq (off := 11) (by decide +kernel) rfl
theorem t_108_13 : am_ok lw_Ts cX7_points 2 RX7 13 (o_al 14 0) := so_al (Or.inl ⟨0, rfl, rfl, rfl⟩) (by decide +kernel)
theorem t_108_14 : am_ok lw_Ts cX7_points 2 RX7 14 (o_il 15 1) := so_il (Or.inl ⟨1, rfl, rfl, rfl⟩) (by decide +kernel)
theorem t_108_15 : am_okc gm_mi gm_mt lw_Ts lw_Ns cX7_points RX7 15 107 2 := ⟨200, cf_107.1, cf_107.2.1, cf_107.2.2.1, cf_107.2.2.2, Or.inr ⟨7, 1, TX7, 37, rfl, rfl, rfl, (by decide +kernel), wt_979, wt_41, wt_977, by decide +kernel⟩⟩
theorem t_108_18 : am_ok lw_Ts cX7_points 2 RX7 18 (o_go 22) := so_go (off := 4) (by decide +kernel) rfl
theorem t_108_21 : am_ok lw_Ts cX7_points 2 RX7 21 (o_k 22 (vI (-1))) := so_k (by decide +kernel)
theorem t_108_22 : am_okr cX7_points 22 1 := (show decode cX7_points 22 = .ok (.ireturn, 1) by decide +kernel)
set_option maxRecDepth 20000 in
theorem ok_108 : am_okL gm_mi gm_mt lw_Ts lw_Ns 108 cd_108 := ⟨t_108_0, t_108_1, t_108_2, t_108_5, t_108_6, t_108_7, t_108_10, t_108_13, t_108_14, t_108_15, t_108_18, t_108_21, t_108_22, trivial⟩
theorem t_109_0 : am_ok lw_Ts cX7_stands 3 RX7 0 (o_al 1 0) := so_al (Or.inl ⟨0, rfl, rfl, rfl⟩) (by decide +kernel)
theorem t_109_1 : am_ok lw_Ts cX7_stands 3 RX7 1 (o_il 2 1) := so_il (Or.inl ⟨1, rfl, rfl, rfl⟩) (by decide +kernel)
theorem t_109_2 : am_okc gm_mi gm_mt lw_Ts lw_Ns cX7_stands RX7 2 107 2 := ⟨200, cf_107.1, cf_107.2.1, cf_107.2.2.1, cf_107.2.2.2, Or.inr ⟨7, 1, TX7, 37, rfl, rfl, rfl, (by decide +kernel), wt_979, wt_41, wt_977, by decide +kernel⟩⟩
theorem t_109_5 : am_ok lw_Ts cX7_stands 3 RX7 5 (o_al 6 0) := so_al (Or.inl ⟨0, rfl, rfl, rfl⟩) (by decide +kernel)
theorem t_109_6 : am_ok lw_Ts cX7_stands 3 RX7 6 (o_il 7 2) := so_il (Or.inl ⟨2, rfl, rfl, rfl⟩) (by decide +kernel)
theorem t_109_7 : am_okc gm_mi gm_mt lw_Ts lw_Ns cX7_stands RX7 7 107 2 := ⟨200, cf_107.1, cf_107.2.1, cf_107.2.2.1, cf_107.2.2.2, Or.inr ⟨7, 1, TX7, 37, rfl, rfl, rfl, (by decide +kernel), wt_979, wt_41, wt_977, by decide +kernel⟩⟩
theorem t_109_10 : am_ok lw_Ts cX7_stands 3 RX7 10 (o_ic 32 13 r_eq) := so_ic_eq (off := 22) (by decide +kernel) rfl
theorem t_109_13 : am_ok lw_Ts cX7_stands 3 RX7 13 (o_al 14 0) := so_al (Or.inl ⟨0, rfl, rfl, rfl⟩) (by decide +kernel)
theorem t_109_14 : am_ok lw_Ts cX7_stands 3 RX7 14 (o_il 15 1) := so_il (Or.inl ⟨1, rfl, rfl, rfl⟩) (by decide +kernel)
theorem t_109_15 : am_okc gm_mi gm_mt lw_Ts lw_Ns cX7_stands RX7 15 107 2 := ⟨200, cf_107.1, cf_107.2.1, cf_107.2.2.1, cf_107.2.2.2, Or.inr ⟨7, 1, TX7, 37, rfl, rfl, rfl, (by decide +kernel), wt_979, wt_41, wt_977, by decide +kernel⟩⟩
theorem t_109_18 : am_ok lw_Ts cX7_stands 3 RX7 18 (o_al 19 0) := so_al (Or.inl ⟨0, rfl, rfl, rfl⟩) (by decide +kernel)
theorem t_109_19 : am_ok lw_Ts cX7_stands 3 RX7 19 (o_il 20 2) := so_il (Or.inl ⟨2, rfl, rfl, rfl⟩) (by decide +kernel)
theorem t_109_20 : am_okc gm_mi gm_mt lw_Ts lw_Ns cX7_stands RX7 20 107 2 := ⟨200, cf_107.1, cf_107.2.1, cf_107.2.2.1, cf_107.2.2.2, Or.inr ⟨7, 1, TX7, 37, rfl, rfl, rfl, (by decide +kernel), wt_979, wt_41, wt_977, by decide +kernel⟩⟩
theorem t_109_23 : am_ok lw_Ts cX7_stands 3 RX7 23 (o_ic 30 26 r_le) := so_ic_le (off := 7) (by decide +kernel) rfl
theorem t_109_26 : am_ok lw_Ts cX7_stands 3 RX7 26 (o_k 27 (vI (1))) := so_k (by decide +kernel)
theorem t_109_27 : am_ok lw_Ts cX7_stands 3 RX7 27 (o_go 31) := so_go (off := 4) (by decide +kernel) rfl
theorem t_109_30 : am_ok lw_Ts cX7_stands 3 RX7 30 (o_k 31 (vI (0))) := so_k (by decide +kernel)
theorem t_109_31 : am_okr cX7_stands 31 2 := (show decode cX7_stands 31 = .ok (.ireturn, 1) by decide +kernel)
theorem t_109_32 : am_ok lw_Ts cX7_stands 3 RX7 32 (o_al 33 0) := so_al (Or.inl ⟨0, rfl, rfl, rfl⟩) (by decide +kernel)
theorem t_109_33 : am_ok lw_Ts cX7_stands 3 RX7 33 (o_gf 36 7 3) := so_gf cl_X7 (by decide) wt_712 (by decide +kernel)
theorem t_109_36 : am_ok lw_Ts cX7_stands 3 RX7 36 (o_il 37 1) := so_il (Or.inl ⟨1, rfl, rfl, rfl⟩) (by decide +kernel)
theorem t_109_37 : am_ok lw_Ts cX7_stands 3 RX7 37 (o_ia 38) := so_ia (by decide +kernel)
theorem t_109_38 : am_ok lw_Ts cX7_stands 3 RX7 38 (o_al 39 0) := so_al (Or.inl ⟨0, rfl, rfl, rfl⟩) (by decide +kernel)
theorem t_109_39 : am_ok lw_Ts cX7_stands 3 RX7 39 (o_gf 42 7 3) := so_gf cl_X7 (by decide) wt_712 (by decide +kernel)
theorem t_109_42 : am_ok lw_Ts cX7_stands 3 RX7 42 (o_il 43 2) := so_il (Or.inl ⟨2, rfl, rfl, rfl⟩) (by decide +kernel)
theorem t_109_43 : am_ok lw_Ts cX7_stands 3 RX7 43 (o_ia 44) := so_ia (by decide +kernel)
theorem t_109_44 : am_ok lw_Ts cX7_stands 3 RX7 44 (o_ic 68 47 r_eq) := so_ic_eq (off := 24) (by decide +kernel) rfl
theorem t_109_47 : am_ok lw_Ts cX7_stands 3 RX7 47 (o_al 48 0) := so_al (Or.inl ⟨0, rfl, rfl, rfl⟩) (by decide +kernel)
theorem t_109_48 : am_ok lw_Ts cX7_stands 3 RX7 48 (o_gf 51 7 3) := so_gf cl_X7 (by decide) wt_712 (by decide +kernel)
theorem t_109_51 : am_ok lw_Ts cX7_stands 3 RX7 51 (o_il 52 1) := so_il (Or.inl ⟨1, rfl, rfl, rfl⟩) (by decide +kernel)
theorem t_109_52 : am_ok lw_Ts cX7_stands 3 RX7 52 (o_ia 53) := so_ia (by decide +kernel)
theorem t_109_53 : am_ok lw_Ts cX7_stands 3 RX7 53 (o_al 54 0) := so_al (Or.inl ⟨0, rfl, rfl, rfl⟩) (by decide +kernel)
theorem t_109_54 : am_ok lw_Ts cX7_stands 3 RX7 54 (o_gf 57 7 3) := so_gf cl_X7 (by decide) wt_712 (by decide +kernel)
theorem t_109_57 : am_ok lw_Ts cX7_stands 3 RX7 57 (o_il 58 2) := so_il (Or.inl ⟨2, rfl, rfl, rfl⟩) (by decide +kernel)
theorem t_109_58 : am_ok lw_Ts cX7_stands 3 RX7 58 (o_ia 59) := so_ia (by decide +kernel)
theorem t_109_59 : am_ok lw_Ts cX7_stands 3 RX7 59 (o_ic 66 62 r_le) := so_ic_le (off := 7) (by decide +kernel) rfl
theorem t_109_62 : am_ok lw_Ts cX7_stands 3 RX7 62 (o_k 63 (vI (1))) := so_k (by decide +kernel)
theorem t_109_63 : am_ok lw_Ts cX7_stands 3 RX7 63 (o_go 67) := so_go (off := 4) (by decide +kernel) rfl
theorem t_109_66 : am_ok lw_Ts cX7_stands 3 RX7 66 (o_k 67 (vI (0))) := so_k (by decide +kernel)
theorem t_109_67 : am_okr cX7_stands 67 2 := (show decode cX7_stands 67 = .ok (.ireturn, 1) by decide +kernel)
theorem t_109_68 : am_ok lw_Ts cX7_stands 3 RX7 68 (o_il 69 1) := so_il (Or.inl ⟨1, rfl, rfl, rfl⟩) (by decide +kernel)
theorem t_109_69 : am_ok lw_Ts cX7_stands 3 RX7 69 (o_il 70 2) := so_il (Or.inl ⟨2, rfl, rfl, rfl⟩) (by decide +kernel)
theorem t_109_70 : am_ok lw_Ts cX7_stands 3 RX7 70 (o_ic 77 73 r_ge) := so_ic_ge (off := 7) (by decide +kernel) rfl
theorem t_109_73 : am_ok lw_Ts cX7_stands 3 RX7 73 (o_k 74 (vI (1))) := so_k (by decide +kernel)
theorem t_109_74 : am_ok lw_Ts cX7_stands 3 RX7 74 (o_go 78) := so_go (off := 4) (by decide +kernel) rfl
theorem t_109_77 : am_ok lw_Ts cX7_stands 3 RX7 77 (o_k 78 (vI (0))) := so_k (by decide +kernel)
theorem t_109_78 : am_okr cX7_stands 78 2 := (show decode cX7_stands 78 = .ok (.ireturn, 1) by decide +kernel)
set_option maxRecDepth 20000 in
theorem ok_109 : am_okL gm_mi gm_mt lw_Ts lw_Ns 109 cd_109 := ⟨t_109_0, t_109_1, t_109_2, t_109_5, t_109_6, t_109_7, t_109_10, t_109_13, t_109_14, t_109_15, t_109_18, t_109_19, t_109_20, t_109_23, t_109_26, t_109_27, t_109_30, t_109_31, t_109_32, t_109_33, t_109_36, t_109_37, t_109_38, t_109_39, t_109_42, t_109_43, t_109_44, t_109_47, t_109_48, t_109_51, t_109_52, t_109_53, t_109_54, t_109_57, t_109_58, t_109_59, t_109_62, t_109_63, t_109_66, t_109_67, t_109_68, t_109_69, t_109_70, t_109_73, t_109_74, t_109_77, t_109_78, trivial⟩
theorem t_110_0 : am_ok lw_Ts cX7_prize 5 RX7 0 (o_al 1 0) := so_al (Or.inl ⟨0, rfl, rfl, rfl⟩) (by decide +kernel)
theorem t_110_1 : am_ok lw_Ts cX7_prize 5 RX7 1 (o_k 2 (vI (0))) := so_k (by decide +kernel)
theorem t_110_2 : am_ok lw_Ts cX7_prize 5 RX7 2 (o_pf 5 7 25) := so_pf cl_X7 tyX7_ok nmX7 (by decide) rfl rfl wt_734 (by decide +kernel)
theorem t_110_5 : am_ok lw_Ts cX7_prize 5 RX7 5 (o_k 6 (vI (0))) := so_k (by decide +kernel)
theorem t_110_6 : am_ok lw_Ts cX7_prize 5 RX7 6 (o_is 7 2) := so_is (Or.inl ⟨2, rfl, rfl, rfl⟩) (by decide +kernel)
theorem t_110_7 : am_ok lw_Ts cX7_prize 5 RX7 7 (o_il 8 2) := so_il (Or.inl ⟨2, rfl, rfl, rfl⟩) (by decide +kernel)
theorem t_110_8 : am_ok lw_Ts cX7_prize 5 RX7 8 (o_al 9 0) := so_al (Or.inl ⟨0, rfl, rfl, rfl⟩) (by decide +kernel)
theorem t_110_9 : am_ok lw_Ts cX7_prize 5 RX7 9 (o_gf 12 7 7) := so_gf cl_X7 (by decide) wt_716 (by decide +kernel)
theorem t_110_12 : am_ok lw_Ts cX7_prize 5 RX7 12 (o_ic 67 15 r_ge) := so_ic_ge (off := 55) (by decide +kernel) rfl
theorem t_110_15 : am_ok lw_Ts cX7_prize 5 RX7 15 (o_k 16 (vI (0))) := so_k (by decide +kernel)
theorem t_110_16 : am_ok lw_Ts cX7_prize 5 RX7 16 (o_is 17 3) := so_is (Or.inl ⟨3, rfl, rfl, rfl⟩) (by decide +kernel)
theorem t_110_17 : am_ok lw_Ts cX7_prize 5 RX7 17 (o_k 18 (vI (0))) := so_k (by decide +kernel)
theorem t_110_18 : am_ok lw_Ts cX7_prize 5 RX7 18 (o_is 20 4) := so_is (Or.inr ⟨rfl, rfl⟩) (by decide +kernel)
theorem t_110_20 : am_ok lw_Ts cX7_prize 5 RX7 20 (o_il 22 4) := so_il (Or.inr ⟨rfl, rfl⟩) (by decide +kernel)
theorem t_110_22 : am_ok lw_Ts cX7_prize 5 RX7 22 (o_al 23 0) := so_al (Or.inl ⟨0, rfl, rfl, rfl⟩) (by decide +kernel)
theorem t_110_23 : am_ok lw_Ts cX7_prize 5 RX7 23 (o_gf 26 7 7) := so_gf cl_X7 (by decide) wt_716 (by decide +kernel)
theorem t_110_26 : am_ok lw_Ts cX7_prize 5 RX7 26 (o_ic 54 29 r_ge) := so_ic_ge (off := 28) (by decide +kernel) rfl
theorem t_110_29 : am_ok lw_Ts cX7_prize 5 RX7 29 (o_il 31 4) := so_il (Or.inr ⟨rfl, rfl⟩) (by decide +kernel)
theorem t_110_31 : am_ok lw_Ts cX7_prize 5 RX7 31 (o_il 32 2) := so_il (Or.inl ⟨2, rfl, rfl, rfl⟩) (by decide +kernel)
theorem t_110_32 : am_ok lw_Ts cX7_prize 5 RX7 32 (o_ic 48 35 r_eq) := so_ic_eq (off := 16) (by decide +kernel) rfl
theorem t_110_35 : am_ok lw_Ts cX7_prize 5 RX7 35 (o_al 36 0) := so_al (Or.inl ⟨0, rfl, rfl, rfl⟩) (by decide +kernel)
theorem t_110_36 : am_ok lw_Ts cX7_prize 5 RX7 36 (o_il 38 4) := so_il (Or.inr ⟨rfl, rfl⟩) (by decide +kernel)
theorem t_110_38 : am_ok lw_Ts cX7_prize 5 RX7 38 (o_il 39 2) := so_il (Or.inl ⟨2, rfl, rfl, rfl⟩) (by decide +kernel)
theorem t_110_39 : am_okc gm_mi gm_mt lw_Ts lw_Ns cX7_prize RX7 39 109 3 := ⟨203, cf_109.1, cf_109.2.1, cf_109.2.2.1, cf_109.2.2.2, Or.inr ⟨7, 2, TX7, 37, rfl, rfl, rfl, (by decide +kernel), wt_987, wt_42, wt_985, by decide +kernel⟩⟩
theorem t_110_42 : am_ok lw_Ts cX7_prize 5 RX7 42 (o_if 48 45 q_eq) := so_if_eq (off := 6) (by decide +kernel) rfl
theorem t_110_45 : am_ok lw_Ts cX7_prize 5 RX7 45 (o_ii 48 3 (1)) := so_ii (by decide +kernel)
theorem t_110_48 : am_ok lw_Ts cX7_prize 5 RX7 48 (o_ii 51 4 (1)) := so_ii (by decide +kernel)
theorem t_110_51 : am_ok lw_Ts cX7_prize 5 RX7 51 (o_go 20) := so_go (off := (-31)) (by decide +kernel) rfl
theorem t_110_54 : am_ok lw_Ts cX7_prize 5 RX7 54 (o_il 55 3) := so_il (Or.inl ⟨3, rfl, rfl, rfl⟩) (by decide +kernel)
theorem t_110_55 : am_ok lw_Ts cX7_prize 5 RX7 55 (o_il 56 1) := so_il (Or.inl ⟨1, rfl, rfl, rfl⟩) (by decide +kernel)
theorem t_110_56 : am_ok lw_Ts cX7_prize 5 RX7 56 (o_ic 61 59 r_ne) := so_ic_ne (off := 5) (by decide +kernel) rfl
theorem t_110_59 : am_ok lw_Ts cX7_prize 5 RX7 59 (o_il 60 2) := so_il (Or.inl ⟨2, rfl, rfl, rfl⟩) (by decide +kernel)
theorem t_110_60 : am_okr cX7_prize 60 1 := (show decode cX7_prize 60 = .ok (.ireturn, 1) by decide +kernel)
theorem t_110_61 : am_ok lw_Ts cX7_prize 5 RX7 61 (o_ii 64 2 (1)) := so_ii (by decide +kernel)
theorem t_110_64 : am_ok lw_Ts cX7_prize 5 RX7 64 (o_go 7) := so_go (off := (-57)) (by decide +kernel) rfl
theorem t_110_67 : am_ok lw_Ts cX7_prize 5 RX7 67 (o_k 68 (vI (-1))) := so_k (by decide +kernel)
theorem t_110_68 : am_okr cX7_prize 68 1 := (show decode cX7_prize 68 = .ok (.ireturn, 1) by decide +kernel)
set_option maxRecDepth 20000 in
theorem ok_110 : am_okL gm_mi gm_mt lw_Ts lw_Ns 110 cd_110 := ⟨t_110_0, t_110_1, t_110_2, t_110_5, t_110_6, t_110_7, t_110_8, t_110_9, t_110_12, t_110_15, t_110_16, t_110_17, t_110_18, t_110_20, t_110_22, t_110_23, t_110_26, t_110_29, t_110_31, t_110_32, t_110_35, t_110_36, t_110_38, t_110_39, t_110_42, t_110_45, t_110_48, t_110_51, t_110_54, t_110_55, t_110_56, t_110_59, t_110_60, t_110_61, t_110_64, t_110_67, t_110_68, trivial⟩
theorem t_111_0 : am_ok lw_Ts cJ6_numberOfTrailingZeros_0f7a4 2 RJ6 0 (o_il 1 0) := so_il (Or.inl ⟨0, rfl, rfl, rfl⟩) (by decide +kernel)
theorem t_111_1 : am_ok lw_Ts cJ6_numberOfTrailingZeros_0f7a4 2 RJ6 1 (o_k 2 (vI (-1))) := so_k (by decide +kernel)
theorem t_111_2 : am_ok lw_Ts cJ6_numberOfTrailingZeros_0f7a4 2 RJ6 2 (o_ib 3 f_xor) := so_ixor (by decide +kernel)
theorem t_111_3 : am_ok lw_Ts cJ6_numberOfTrailingZeros_0f7a4 2 RJ6 3 (o_il 4 0) := so_il (Or.inl ⟨0, rfl, rfl, rfl⟩) (by decide +kernel)
theorem t_111_4 : am_ok lw_Ts cJ6_numberOfTrailingZeros_0f7a4 2 RJ6 4 (o_k 5 (vI (1))) := so_k (by decide +kernel)
theorem t_111_5 : am_ok lw_Ts cJ6_numberOfTrailingZeros_0f7a4 2 RJ6 5 (o_ib 6 f_sub) := so_isub (by decide +kernel)
theorem t_111_6 : am_ok lw_Ts cJ6_numberOfTrailingZeros_0f7a4 2 RJ6 6 (o_ib 7 f_and) := so_iand (by decide +kernel)
theorem t_111_7 : am_ok lw_Ts cJ6_numberOfTrailingZeros_0f7a4 2 RJ6 7 (o_is 8 0) := so_is (Or.inl ⟨0, rfl, rfl, rfl⟩) (by decide +kernel)
theorem t_111_8 : am_ok lw_Ts cJ6_numberOfTrailingZeros_0f7a4 2 RJ6 8 (o_il 9 0) := so_il (Or.inl ⟨0, rfl, rfl, rfl⟩) (by decide +kernel)
theorem t_111_9 : am_ok lw_Ts cJ6_numberOfTrailingZeros_0f7a4 2 RJ6 9 (o_if 17 12 q_gt) := so_if_gt (off := 8) (by decide +kernel) rfl
theorem t_111_12 : am_ok lw_Ts cJ6_numberOfTrailingZeros_0f7a4 2 RJ6 12 (o_il 13 0) := so_il (Or.inl ⟨0, rfl, rfl, rfl⟩) (by decide +kernel)
theorem t_111_13 : am_ok lw_Ts cJ6_numberOfTrailingZeros_0f7a4 2 RJ6 13 (o_k 15 (vI (32))) := so_bp rfl (by decide +kernel)
theorem t_111_15 : am_ok lw_Ts cJ6_numberOfTrailingZeros_0f7a4 2 RJ6 15 (o_ib 16 f_and) := so_iand (by decide +kernel)
theorem t_111_16 : am_okr cJ6_numberOfTrailingZeros_0f7a4 16 1 := (show decode cJ6_numberOfTrailingZeros_0f7a4 16 = .ok (.ireturn, 1) by decide +kernel)
theorem t_111_17 : am_ok lw_Ts cJ6_numberOfTrailingZeros_0f7a4 2 RJ6 17 (o_k 18 (vI (1))) := so_k (by decide +kernel)
theorem t_111_18 : am_ok lw_Ts cJ6_numberOfTrailingZeros_0f7a4 2 RJ6 18 (o_is 19 1) := so_is (Or.inl ⟨1, rfl, rfl, rfl⟩) (by decide +kernel)
theorem t_111_19 : am_ok lw_Ts cJ6_numberOfTrailingZeros_0f7a4 2 RJ6 19 (o_il 20 0) := so_il (Or.inl ⟨0, rfl, rfl, rfl⟩) (by decide +kernel)
theorem t_111_20 : am_ok lw_Ts cJ6_numberOfTrailingZeros_0f7a4 2 RJ6 20 (o_k 23 (vI (65536))) := so_ldcw wt_567 (by decide +kernel)
theorem t_111_23 : am_ok lw_Ts cJ6_numberOfTrailingZeros_0f7a4 2 RJ6 23 (o_ic 34 26 r_le) := so_ic_le (off := 11) (by decide +kernel) rfl
theorem t_111_26 : am_ok lw_Ts cJ6_numberOfTrailingZeros_0f7a4 2 RJ6 26 (o_ii 29 1 (16)) := so_ii (by decide +kernel)
theorem t_111_29 : am_ok lw_Ts cJ6_numberOfTrailingZeros_0f7a4 2 RJ6 29 (o_il 30 0) := so_il (Or.inl ⟨0, rfl, rfl, rfl⟩) (by decide +kernel)
theorem t_111_30 : am_ok lw_Ts cJ6_numberOfTrailingZeros_0f7a4 2 RJ6 30 (o_k 32 (vI (16))) := so_bp rfl (by decide +kernel)
theorem t_111_32 : am_ok lw_Ts cJ6_numberOfTrailingZeros_0f7a4 2 RJ6 32 (o_ib 33 f_ushr) := so_iushr (by decide +kernel)
theorem t_111_33 : am_ok lw_Ts cJ6_numberOfTrailingZeros_0f7a4 2 RJ6 33 (o_is 34 0) := so_is (Or.inl ⟨0, rfl, rfl, rfl⟩) (by decide +kernel)
theorem t_111_34 : am_ok lw_Ts cJ6_numberOfTrailingZeros_0f7a4 2 RJ6 34 (o_il 35 0) := so_il (Or.inl ⟨0, rfl, rfl, rfl⟩) (by decide +kernel)
theorem t_111_35 : am_ok lw_Ts cJ6_numberOfTrailingZeros_0f7a4 2 RJ6 35 (o_k 38 (vI (256))) := so_sp rfl (by decide +kernel)
theorem t_111_38 : am_ok lw_Ts cJ6_numberOfTrailingZeros_0f7a4 2 RJ6 38 (o_ic 49 41 r_le) := so_ic_le (off := 11) (by decide +kernel) rfl
theorem t_111_41 : am_ok lw_Ts cJ6_numberOfTrailingZeros_0f7a4 2 RJ6 41 (o_ii 44 1 (8)) := so_ii (by decide +kernel)
theorem t_111_44 : am_ok lw_Ts cJ6_numberOfTrailingZeros_0f7a4 2 RJ6 44 (o_il 45 0) := so_il (Or.inl ⟨0, rfl, rfl, rfl⟩) (by decide +kernel)
theorem t_111_45 : am_ok lw_Ts cJ6_numberOfTrailingZeros_0f7a4 2 RJ6 45 (o_k 47 (vI (8))) := so_bp rfl (by decide +kernel)
theorem t_111_47 : am_ok lw_Ts cJ6_numberOfTrailingZeros_0f7a4 2 RJ6 47 (o_ib 48 f_ushr) := so_iushr (by decide +kernel)
theorem t_111_48 : am_ok lw_Ts cJ6_numberOfTrailingZeros_0f7a4 2 RJ6 48 (o_is 49 0) := so_is (Or.inl ⟨0, rfl, rfl, rfl⟩) (by decide +kernel)
theorem t_111_49 : am_ok lw_Ts cJ6_numberOfTrailingZeros_0f7a4 2 RJ6 49 (o_il 50 0) := so_il (Or.inl ⟨0, rfl, rfl, rfl⟩) (by decide +kernel)
theorem t_111_50 : am_ok lw_Ts cJ6_numberOfTrailingZeros_0f7a4 2 RJ6 50 (o_k 52 (vI (16))) := so_bp rfl (by decide +kernel)
theorem t_111_52 : am_ok lw_Ts cJ6_numberOfTrailingZeros_0f7a4 2 RJ6 52 (o_ic 62 55 r_le) := so_ic_le (off := 10) (by decide +kernel) rfl
theorem t_111_55 : am_ok lw_Ts cJ6_numberOfTrailingZeros_0f7a4 2 RJ6 55 (o_ii 58 1 (4)) := so_ii (by decide +kernel)
theorem t_111_58 : am_ok lw_Ts cJ6_numberOfTrailingZeros_0f7a4 2 RJ6 58 (o_il 59 0) := so_il (Or.inl ⟨0, rfl, rfl, rfl⟩) (by decide +kernel)
theorem t_111_59 : am_ok lw_Ts cJ6_numberOfTrailingZeros_0f7a4 2 RJ6 59 (o_k 60 (vI (4))) := so_k (by decide +kernel)
theorem t_111_60 : am_ok lw_Ts cJ6_numberOfTrailingZeros_0f7a4 2 RJ6 60 (o_ib 61 f_ushr) := so_iushr (by decide +kernel)
theorem t_111_61 : am_ok lw_Ts cJ6_numberOfTrailingZeros_0f7a4 2 RJ6 61 (o_is 62 0) := so_is (Or.inl ⟨0, rfl, rfl, rfl⟩) (by decide +kernel)
theorem t_111_62 : am_ok lw_Ts cJ6_numberOfTrailingZeros_0f7a4 2 RJ6 62 (o_il 63 0) := so_il (Or.inl ⟨0, rfl, rfl, rfl⟩) (by decide +kernel)
theorem t_111_63 : am_ok lw_Ts cJ6_numberOfTrailingZeros_0f7a4 2 RJ6 63 (o_k 64 (vI (4))) := so_k (by decide +kernel)
theorem t_111_64 : am_ok lw_Ts cJ6_numberOfTrailingZeros_0f7a4 2 RJ6 64 (o_ic 74 67 r_le) := so_ic_le (off := 10) (by decide +kernel) rfl
theorem t_111_67 : am_ok lw_Ts cJ6_numberOfTrailingZeros_0f7a4 2 RJ6 67 (o_ii 70 1 (2)) := so_ii (by decide +kernel)
theorem t_111_70 : am_ok lw_Ts cJ6_numberOfTrailingZeros_0f7a4 2 RJ6 70 (o_il 71 0) := so_il (Or.inl ⟨0, rfl, rfl, rfl⟩) (by decide +kernel)
theorem t_111_71 : am_ok lw_Ts cJ6_numberOfTrailingZeros_0f7a4 2 RJ6 71 (o_k 72 (vI (2))) := so_k (by decide +kernel)
theorem t_111_72 : am_ok lw_Ts cJ6_numberOfTrailingZeros_0f7a4 2 RJ6 72 (o_ib 73 f_ushr) := so_iushr (by decide +kernel)
theorem t_111_73 : am_ok lw_Ts cJ6_numberOfTrailingZeros_0f7a4 2 RJ6 73 (o_is 74 0) := so_is (Or.inl ⟨0, rfl, rfl, rfl⟩) (by decide +kernel)
theorem t_111_74 : am_ok lw_Ts cJ6_numberOfTrailingZeros_0f7a4 2 RJ6 74 (o_il 75 1) := so_il (Or.inl ⟨1, rfl, rfl, rfl⟩) (by decide +kernel)
theorem t_111_75 : am_ok lw_Ts cJ6_numberOfTrailingZeros_0f7a4 2 RJ6 75 (o_il 76 0) := so_il (Or.inl ⟨0, rfl, rfl, rfl⟩) (by decide +kernel)
theorem t_111_76 : am_ok lw_Ts cJ6_numberOfTrailingZeros_0f7a4 2 RJ6 76 (o_k 77 (vI (1))) := so_k (by decide +kernel)
theorem t_111_77 : am_ok lw_Ts cJ6_numberOfTrailingZeros_0f7a4 2 RJ6 77 (o_ib 78 f_ushr) := so_iushr (by decide +kernel)
theorem t_111_78 : am_ok lw_Ts cJ6_numberOfTrailingZeros_0f7a4 2 RJ6 78 (o_ib 79 f_add) := so_iadd (by decide +kernel)
theorem t_111_79 : am_okr cJ6_numberOfTrailingZeros_0f7a4 79 1 := (show decode cJ6_numberOfTrailingZeros_0f7a4 79 = .ok (.ireturn, 1) by decide +kernel)
set_option maxRecDepth 20000 in
theorem ok_111 : am_okL gm_mi gm_mt lw_Ts lw_Ns 111 cd_111 := ⟨t_111_0, t_111_1, t_111_2, t_111_3, t_111_4, t_111_5, t_111_6, t_111_7, t_111_8, t_111_9, t_111_12, t_111_13, t_111_15, t_111_16, t_111_17, t_111_18, t_111_19, t_111_20, t_111_23, t_111_26, t_111_29, t_111_30, t_111_32, t_111_33, t_111_34, t_111_35, t_111_38, t_111_41, t_111_44, t_111_45, t_111_47, t_111_48, t_111_49, t_111_50, t_111_52, t_111_55, t_111_58, t_111_59, t_111_60, t_111_61, t_111_62, t_111_63, t_111_64, t_111_67, t_111_70, t_111_71, t_111_72, t_111_73, t_111_74, t_111_75, t_111_76, t_111_77, t_111_78, t_111_79, trivial⟩
theorem t_112_0 : am_ok lw_Ts cJ6_bitCount_0f7a4 1 RJ6 0 (o_il 1 0) := so_il (Or.inl ⟨0, rfl, rfl, rfl⟩) (by decide +kernel)
theorem t_112_1 : am_ok lw_Ts cJ6_bitCount_0f7a4 1 RJ6 1 (o_il 2 0) := so_il (Or.inl ⟨0, rfl, rfl, rfl⟩) (by decide +kernel)
theorem t_112_2 : am_ok lw_Ts cJ6_bitCount_0f7a4 1 RJ6 2 (o_k 3 (vI (1))) := so_k (by decide +kernel)
theorem t_112_3 : am_ok lw_Ts cJ6_bitCount_0f7a4 1 RJ6 3 (o_ib 4 f_ushr) := so_iushr (by decide +kernel)
theorem t_112_4 : am_ok lw_Ts cJ6_bitCount_0f7a4 1 RJ6 4 (o_k 7 (vI (1431655765))) := so_ldcw wt_371 (by decide +kernel)
theorem t_112_7 : am_ok lw_Ts cJ6_bitCount_0f7a4 1 RJ6 7 (o_ib 8 f_and) := so_iand (by decide +kernel)
theorem t_112_8 : am_ok lw_Ts cJ6_bitCount_0f7a4 1 RJ6 8 (o_ib 9 f_sub) := so_isub (by decide +kernel)
theorem t_112_9 : am_ok lw_Ts cJ6_bitCount_0f7a4 1 RJ6 9 (o_is 10 0) := so_is (Or.inl ⟨0, rfl, rfl, rfl⟩) (by decide +kernel)
theorem t_112_10 : am_ok lw_Ts cJ6_bitCount_0f7a4 1 RJ6 10 (o_il 11 0) := so_il (Or.inl ⟨0, rfl, rfl, rfl⟩) (by decide +kernel)
theorem t_112_11 : am_ok lw_Ts cJ6_bitCount_0f7a4 1 RJ6 11 (o_k 14 (vI (858993459))) := so_ldcw wt_372 (by decide +kernel)
theorem t_112_14 : am_ok lw_Ts cJ6_bitCount_0f7a4 1 RJ6 14 (o_ib 15 f_and) := so_iand (by decide +kernel)
theorem t_112_15 : am_ok lw_Ts cJ6_bitCount_0f7a4 1 RJ6 15 (o_il 16 0) := so_il (Or.inl ⟨0, rfl, rfl, rfl⟩) (by decide +kernel)
theorem t_112_16 : am_ok lw_Ts cJ6_bitCount_0f7a4 1 RJ6 16 (o_k 17 (vI (2))) := so_k (by decide +kernel)
theorem t_112_17 : am_ok lw_Ts cJ6_bitCount_0f7a4 1 RJ6 17 (o_ib 18 f_ushr) := so_iushr (by decide +kernel)
theorem t_112_18 : am_ok lw_Ts cJ6_bitCount_0f7a4 1 RJ6 18 (o_k 21 (vI (858993459))) := so_ldcw wt_372 (by decide +kernel)
theorem t_112_21 : am_ok lw_Ts cJ6_bitCount_0f7a4 1 RJ6 21 (o_ib 22 f_and) := so_iand (by decide +kernel)
theorem t_112_22 : am_ok lw_Ts cJ6_bitCount_0f7a4 1 RJ6 22 (o_ib 23 f_add) := so_iadd (by decide +kernel)
theorem t_112_23 : am_ok lw_Ts cJ6_bitCount_0f7a4 1 RJ6 23 (o_is 24 0) := so_is (Or.inl ⟨0, rfl, rfl, rfl⟩) (by decide +kernel)
theorem t_112_24 : am_ok lw_Ts cJ6_bitCount_0f7a4 1 RJ6 24 (o_il 25 0) := so_il (Or.inl ⟨0, rfl, rfl, rfl⟩) (by decide +kernel)
theorem t_112_25 : am_ok lw_Ts cJ6_bitCount_0f7a4 1 RJ6 25 (o_il 26 0) := so_il (Or.inl ⟨0, rfl, rfl, rfl⟩) (by decide +kernel)
theorem t_112_26 : am_ok lw_Ts cJ6_bitCount_0f7a4 1 RJ6 26 (o_k 27 (vI (4))) := so_k (by decide +kernel)
theorem t_112_27 : am_ok lw_Ts cJ6_bitCount_0f7a4 1 RJ6 27 (o_ib 28 f_ushr) := so_iushr (by decide +kernel)
theorem t_112_28 : am_ok lw_Ts cJ6_bitCount_0f7a4 1 RJ6 28 (o_ib 29 f_add) := so_iadd (by decide +kernel)
theorem t_112_29 : am_ok lw_Ts cJ6_bitCount_0f7a4 1 RJ6 29 (o_k 32 (vI (252645135))) := so_ldcw wt_373 (by decide +kernel)
theorem t_112_32 : am_ok lw_Ts cJ6_bitCount_0f7a4 1 RJ6 32 (o_ib 33 f_and) := so_iand (by decide +kernel)
theorem t_112_33 : am_ok lw_Ts cJ6_bitCount_0f7a4 1 RJ6 33 (o_is 34 0) := so_is (Or.inl ⟨0, rfl, rfl, rfl⟩) (by decide +kernel)
theorem t_112_34 : am_ok lw_Ts cJ6_bitCount_0f7a4 1 RJ6 34 (o_il 35 0) := so_il (Or.inl ⟨0, rfl, rfl, rfl⟩) (by decide +kernel)
theorem t_112_35 : am_ok lw_Ts cJ6_bitCount_0f7a4 1 RJ6 35 (o_il 36 0) := so_il (Or.inl ⟨0, rfl, rfl, rfl⟩) (by decide +kernel)
theorem t_112_36 : am_ok lw_Ts cJ6_bitCount_0f7a4 1 RJ6 36 (o_k 38 (vI (8))) := so_bp rfl (by decide +kernel)
theorem t_112_38 : am_ok lw_Ts cJ6_bitCount_0f7a4 1 RJ6 38 (o_ib 39 f_ushr) := so_iushr (by decide +kernel)
theorem t_112_39 : am_ok lw_Ts cJ6_bitCount_0f7a4 1 RJ6 39 (o_ib 40 f_add) := so_iadd (by decide +kernel)
theorem t_112_40 : am_ok lw_Ts cJ6_bitCount_0f7a4 1 RJ6 40 (o_is 41 0) := so_is (Or.inl ⟨0, rfl, rfl, rfl⟩) (by decide +kernel)
theorem t_112_41 : am_ok lw_Ts cJ6_bitCount_0f7a4 1 RJ6 41 (o_il 42 0) := so_il (Or.inl ⟨0, rfl, rfl, rfl⟩) (by decide +kernel)
theorem t_112_42 : am_ok lw_Ts cJ6_bitCount_0f7a4 1 RJ6 42 (o_il 43 0) := so_il (Or.inl ⟨0, rfl, rfl, rfl⟩) (by decide +kernel)
theorem t_112_43 : am_ok lw_Ts cJ6_bitCount_0f7a4 1 RJ6 43 (o_k 45 (vI (16))) := so_bp rfl (by decide +kernel)
theorem t_112_45 : am_ok lw_Ts cJ6_bitCount_0f7a4 1 RJ6 45 (o_ib 46 f_ushr) := so_iushr (by decide +kernel)
theorem t_112_46 : am_ok lw_Ts cJ6_bitCount_0f7a4 1 RJ6 46 (o_ib 47 f_add) := so_iadd (by decide +kernel)
theorem t_112_47 : am_ok lw_Ts cJ6_bitCount_0f7a4 1 RJ6 47 (o_is 48 0) := so_is (Or.inl ⟨0, rfl, rfl, rfl⟩) (by decide +kernel)
theorem t_112_48 : am_ok lw_Ts cJ6_bitCount_0f7a4 1 RJ6 48 (o_il 49 0) := so_il (Or.inl ⟨0, rfl, rfl, rfl⟩) (by decide +kernel)
theorem t_112_49 : am_ok lw_Ts cJ6_bitCount_0f7a4 1 RJ6 49 (o_k 51 (vI (63))) := so_bp rfl (by decide +kernel)
theorem t_112_51 : am_ok lw_Ts cJ6_bitCount_0f7a4 1 RJ6 51 (o_ib 52 f_and) := so_iand (by decide +kernel)
theorem t_112_52 : am_okr cJ6_bitCount_0f7a4 52 1 := (show decode cJ6_bitCount_0f7a4 52 = .ok (.ireturn, 1) by decide +kernel)
set_option maxRecDepth 20000 in
theorem ok_112 : am_okL gm_mi gm_mt lw_Ts lw_Ns 112 cd_112 := ⟨t_112_0, t_112_1, t_112_2, t_112_3, t_112_4, t_112_7, t_112_8, t_112_9, t_112_10, t_112_11, t_112_14, t_112_15, t_112_16, t_112_17, t_112_18, t_112_21, t_112_22, t_112_23, t_112_24, t_112_25, t_112_26, t_112_27, t_112_28, t_112_29, t_112_32, t_112_33, t_112_34, t_112_35, t_112_36, t_112_38, t_112_39, t_112_40, t_112_41, t_112_42, t_112_43, t_112_45, t_112_46, t_112_47, t_112_48, t_112_49, t_112_51, t_112_52, trivial⟩
theorem t_113_0 : am_ok lw_Ts cJ9_floorMod_f86c9 6 RJ9 0 (o_ll 1 0) := so_ll (Or.inl ⟨0, rfl, rfl, rfl⟩) (by decide +kernel)
theorem t_113_1 : am_ok lw_Ts cJ9_floorMod_f86c9 6 RJ9 1 (o_ll 2 2) := so_ll (Or.inl ⟨2, rfl, rfl, rfl⟩) (by decide +kernel)
theorem t_113_2 : am_ok lw_Ts cJ9_floorMod_f86c9 6 RJ9 2 (o_ld 3 f_lrem) := so_lrem (by decide +kernel)
theorem t_113_3 : am_ok lw_Ts cJ9_floorMod_f86c9 6 RJ9 3 (o_ls 5 4) := so_ls (Or.inr ⟨rfl, rfl⟩) (by decide +kernel)
theorem t_113_5 : am_ok lw_Ts cJ9_floorMod_f86c9 6 RJ9 5 (o_ll 6 0) := so_ll (Or.inl ⟨0, rfl, rfl, rfl⟩) (by decide +kernel)
theorem t_113_6 : am_ok lw_Ts cJ9_floorMod_f86c9 6 RJ9 6 (o_ll 7 2) := so_ll (Or.inl ⟨2, rfl, rfl, rfl⟩) (by decide +kernel)
theorem t_113_7 : am_ok lw_Ts cJ9_floorMod_f86c9 6 RJ9 7 (o_lb 8 f_lxor) := so_lxor (by decide +kernel)
theorem t_113_8 : am_ok lw_Ts cJ9_floorMod_f86c9 6 RJ9 8 (o_k 9 (vL (0))) := so_lk (n := 0) rfl (by decide +kernel)
theorem t_113_9 : am_ok lw_Ts cJ9_floorMod_f86c9 6 RJ9 9 (o_lcmp 10) := so_lcmp (by decide +kernel)
theorem t_113_10 : am_ok lw_Ts cJ9_floorMod_f86c9 6 RJ9 10 (o_if 25 13 q_ge) := so_if_ge (off := 15) (by decide +kernel) rfl
theorem t_113_13 : am_ok lw_Ts cJ9_floorMod_f86c9 6 RJ9 13 (o_ll 15 4) := so_ll (Or.inr ⟨rfl, rfl⟩) (by decide +kernel)
theorem t_113_15 : am_ok lw_Ts cJ9_floorMod_f86c9 6 RJ9 15 (o_k 16 (vL (0))) := so_lk (n := 0) rfl (by decide +kernel)
theorem t_113_16 : am_ok lw_Ts cJ9_floorMod_f86c9 6 RJ9 16 (o_lcmp 17) := so_lcmp (by decide +kernel)
theorem t_113_17 : am_ok lw_Ts cJ9_floorMod_f86c9 6 RJ9 17 (o_if 25 20 q_eq) := so_if_eq (off := 8) (by decide +kernel) rfl
theorem t_113_20 : am_ok lw_Ts cJ9_floorMod_f86c9 6 RJ9 20 (o_ll 22 4) := so_ll (Or.inr ⟨rfl, rfl⟩) (by decide +kernel)
theorem t_113_22 : am_ok lw_Ts cJ9_floorMod_f86c9 6 RJ9 22 (o_ll 23 2) := so_ll (Or.inl ⟨2, rfl, rfl, rfl⟩) (by decide +kernel)
theorem t_113_23 : am_ok lw_Ts cJ9_floorMod_f86c9 6 RJ9 23 (o_lb 24 f_add) := so_ladd (by decide +kernel)
theorem t_113_24 : am_okr cJ9_floorMod_f86c9 24 3 := (show decode cJ9_floorMod_f86c9 24 = .ok (.lreturn, 1) by decide +kernel)
theorem t_113_25 : am_ok lw_Ts cJ9_floorMod_f86c9 6 RJ9 25 (o_ll 27 4) := so_ll (Or.inr ⟨rfl, rfl⟩) (by decide +kernel)
theorem t_113_27 : am_okr cJ9_floorMod_f86c9 27 3 := (show decode cJ9_floorMod_f86c9 27 = .ok (.lreturn, 1) by decide +kernel)
set_option maxRecDepth 20000 in
theorem ok_113 : am_okL gm_mi gm_mt lw_Ts lw_Ns 113 cd_113 := ⟨t_113_0, t_113_1, t_113_2, t_113_3, t_113_5, t_113_6, t_113_7, t_113_8, t_113_9, t_113_10, t_113_13, t_113_15, t_113_16, t_113_17, t_113_20, t_113_22, t_113_23, t_113_24, t_113_25, t_113_27, trivial⟩
theorem t_114_0 : am_ok lw_Ts cJ9_abs_0f7a4 1 RJ9 0 (o_il 1 0) := so_il (Or.inl ⟨0, rfl, rfl, rfl⟩) (by decide +kernel)
theorem t_114_1 : am_ok lw_Ts cJ9_abs_0f7a4 1 RJ9 1 (o_if 9 4 q_ge) := so_if_ge (off := 8) (by decide +kernel) rfl
theorem t_114_4 : am_ok lw_Ts cJ9_abs_0f7a4 1 RJ9 4 (o_il 5 0) := so_il (Or.inl ⟨0, rfl, rfl, rfl⟩) (by decide +kernel)
theorem t_114_5 : am_ok lw_Ts cJ9_abs_0f7a4 1 RJ9 5 (o_iu 6 f_neg) := so_ineg (by decide +kernel)
theorem t_114_6 : am_ok lw_Ts cJ9_abs_0f7a4 1 RJ9 6 (o_go 10) := so_go (off := 4) (by decide +kernel) rfl
theorem t_114_9 : am_ok lw_Ts cJ9_abs_0f7a4 1 RJ9 9 (o_il 10 0) := so_il (Or.inl ⟨0, rfl, rfl, rfl⟩) (by decide +kernel)
theorem t_114_10 : am_okr cJ9_abs_0f7a4 10 1 := (show decode cJ9_abs_0f7a4 10 = .ok (.ireturn, 1) by decide +kernel)
set_option maxRecDepth 20000 in
theorem ok_114 : am_okL gm_mi gm_mt lw_Ts lw_Ns 114 cd_114 := ⟨t_114_0, t_114_1, t_114_4, t_114_5, t_114_6, t_114_9, t_114_10, trivial⟩
theorem t_115_0 : am_ok lw_Ts cJ9_max_7cf53 2 RJ9 0 (o_il 1 0) := so_il (Or.inl ⟨0, rfl, rfl, rfl⟩) (by decide +kernel)
theorem t_115_1 : am_ok lw_Ts cJ9_max_7cf53 2 RJ9 1 (o_il 2 1) := so_il (Or.inl ⟨1, rfl, rfl, rfl⟩) (by decide +kernel)
theorem t_115_2 : am_ok lw_Ts cJ9_max_7cf53 2 RJ9 2 (o_ic 9 5 r_lt) := so_ic_lt (off := 7) (by decide +kernel) rfl
theorem t_115_5 : am_ok lw_Ts cJ9_max_7cf53 2 RJ9 5 (o_il 6 0) := so_il (Or.inl ⟨0, rfl, rfl, rfl⟩) (by decide +kernel)
theorem t_115_6 : am_ok lw_Ts cJ9_max_7cf53 2 RJ9 6 (o_go 10) := so_go (off := 4) (by decide +kernel) rfl
theorem t_115_9 : am_ok lw_Ts cJ9_max_7cf53 2 RJ9 9 (o_il 10 1) := so_il (Or.inl ⟨1, rfl, rfl, rfl⟩) (by decide +kernel)
theorem t_115_10 : am_okr cJ9_max_7cf53 10 1 := (show decode cJ9_max_7cf53 10 = .ok (.ireturn, 1) by decide +kernel)
set_option maxRecDepth 20000 in
theorem ok_115 : am_okL gm_mi gm_mt lw_Ts lw_Ns 115 cd_115 := ⟨t_115_0, t_115_1, t_115_2, t_115_5, t_115_6, t_115_9, t_115_10, trivial⟩
theorem t_116_0 : am_ok lw_Ts cJ9_max_f86c9 4 RJ9 0 (o_ll 1 0) := so_ll (Or.inl ⟨0, rfl, rfl, rfl⟩) (by decide +kernel)
theorem t_116_1 : am_ok lw_Ts cJ9_max_f86c9 4 RJ9 1 (o_ll 2 2) := so_ll (Or.inl ⟨2, rfl, rfl, rfl⟩) (by decide +kernel)
theorem t_116_2 : am_ok lw_Ts cJ9_max_f86c9 4 RJ9 2 (o_lcmp 3) := so_lcmp (by decide +kernel)
theorem t_116_3 : am_ok lw_Ts cJ9_max_f86c9 4 RJ9 3 (o_if 10 6 q_lt) := so_if_lt (off := 7) (by decide +kernel) rfl
theorem t_116_6 : am_ok lw_Ts cJ9_max_f86c9 4 RJ9 6 (o_ll 7 0) := so_ll (Or.inl ⟨0, rfl, rfl, rfl⟩) (by decide +kernel)
theorem t_116_7 : am_ok lw_Ts cJ9_max_f86c9 4 RJ9 7 (o_go 11) := so_go (off := 4) (by decide +kernel) rfl
theorem t_116_10 : am_ok lw_Ts cJ9_max_f86c9 4 RJ9 10 (o_ll 11 2) := so_ll (Or.inl ⟨2, rfl, rfl, rfl⟩) (by decide +kernel)
theorem t_116_11 : am_okr cJ9_max_f86c9 11 3 := (show decode cJ9_max_f86c9 11 = .ok (.lreturn, 1) by decide +kernel)
set_option maxRecDepth 20000 in
theorem ok_116 : am_okL gm_mi gm_mt lw_Ts lw_Ns 116 cd_116 := ⟨t_116_0, t_116_1, t_116_2, t_116_3, t_116_6, t_116_7, t_116_10, t_116_11, trivial⟩
theorem t_117_0 : am_ok lw_Ts cJ7_fill_d0a16 5 RJ7 0 (o_k 1 (vI (0))) := so_k (by decide +kernel)
theorem t_117_1 : am_ok lw_Ts cJ7_fill_d0a16 5 RJ7 1 (o_is 2 3) := so_is (Or.inl ⟨3, rfl, rfl, rfl⟩) (by decide +kernel)
theorem t_117_2 : am_ok lw_Ts cJ7_fill_d0a16 5 RJ7 2 (o_al 3 0) := so_al (Or.inl ⟨0, rfl, rfl, rfl⟩) (by decide +kernel)
theorem t_117_3 : am_ok lw_Ts cJ7_fill_d0a16 5 RJ7 3 (o_len 4) := so_len (by decide +kernel)
theorem t_117_4 : am_ok lw_Ts cJ7_fill_d0a16 5 RJ7 4 (o_is 6 4) := so_is (Or.inr ⟨rfl, rfl⟩) (by decide +kernel)
theorem t_117_6 : am_ok lw_Ts cJ7_fill_d0a16 5 RJ7 6 (o_il 7 3) := so_il (Or.inl ⟨3, rfl, rfl, rfl⟩) (by decide +kernel)
theorem t_117_7 : am_ok lw_Ts cJ7_fill_d0a16 5 RJ7 7 (o_il 9 4) := so_il (Or.inr ⟨rfl, rfl⟩) (by decide +kernel)
theorem t_117_9 : am_ok lw_Ts cJ7_fill_d0a16 5 RJ7 9 (o_ic 22 12 r_ge) := so_ic_ge (off := 13) (by decide +kernel) rfl
theorem t_117_12 : am_ok lw_Ts cJ7_fill_d0a16 5 RJ7 12 (o_al 13 0) := so_al (Or.inl ⟨0, rfl, rfl, rfl⟩) (by decide +kernel)
theorem t_117_13 : am_ok lw_Ts cJ7_fill_d0a16 5 RJ7 13 (o_il 14 3) := so_il (Or.inl ⟨3, rfl, rfl, rfl⟩) (by decide +kernel)
theorem t_117_14 : am_ok lw_Ts cJ7_fill_d0a16 5 RJ7 14 (o_ll 15 1) := so_ll (Or.inl ⟨1, rfl, rfl, rfl⟩) (by decide +kernel)
theorem t_117_15 : am_ok lw_Ts cJ7_fill_d0a16 5 RJ7 15 (o_lw 16) := so_lw (by decide +kernel)
theorem t_117_16 : am_ok lw_Ts cJ7_fill_d0a16 5 RJ7 16 (o_ii 19 3 (1)) := so_ii (by decide +kernel)
theorem t_117_19 : am_ok lw_Ts cJ7_fill_d0a16 5 RJ7 19 (o_go 6) := so_go (off := (-13)) (by decide +kernel) rfl
theorem t_117_22 : am_okr cJ7_fill_d0a16 22 0 := (show decode cJ7_fill_d0a16 22 = .ok (.return_, 1) by decide +kernel)
set_option maxRecDepth 20000 in
theorem ok_117 : am_okL gm_mi gm_mt lw_Ts lw_Ns 117 cd_117 := ⟨t_117_0, t_117_1, t_117_2, t_117_3, t_117_4, t_117_6, t_117_7, t_117_9, t_117_12, t_117_13, t_117_14, t_117_15, t_117_16, t_117_19, t_117_22, trivial⟩
theorem t_118_0 : am_ok lw_Ts cJ7_fill_53178 4 RJ7 0 (o_k 1 (vI (0))) := so_k (by decide +kernel)
theorem t_118_1 : am_ok lw_Ts cJ7_fill_53178 4 RJ7 1 (o_is 2 2) := so_is (Or.inl ⟨2, rfl, rfl, rfl⟩) (by decide +kernel)
theorem t_118_2 : am_ok lw_Ts cJ7_fill_53178 4 RJ7 2 (o_al 3 0) := so_al (Or.inl ⟨0, rfl, rfl, rfl⟩) (by decide +kernel)
theorem t_118_3 : am_ok lw_Ts cJ7_fill_53178 4 RJ7 3 (o_len 4) := so_len (by decide +kernel)
theorem t_118_4 : am_ok lw_Ts cJ7_fill_53178 4 RJ7 4 (o_is 5 3) := so_is (Or.inl ⟨3, rfl, rfl, rfl⟩) (by decide +kernel)
theorem t_118_5 : am_ok lw_Ts cJ7_fill_53178 4 RJ7 5 (o_il 6 2) := so_il (Or.inl ⟨2, rfl, rfl, rfl⟩) (by decide +kernel)
theorem t_118_6 : am_ok lw_Ts cJ7_fill_53178 4 RJ7 6 (o_il 7 3) := so_il (Or.inl ⟨3, rfl, rfl, rfl⟩) (by decide +kernel)
theorem t_118_7 : am_ok lw_Ts cJ7_fill_53178 4 RJ7 7 (o_ic 20 10 r_ge) := so_ic_ge (off := 13) (by decide +kernel) rfl
theorem t_118_10 : am_ok lw_Ts cJ7_fill_53178 4 RJ7 10 (o_al 11 0) := so_al (Or.inl ⟨0, rfl, rfl, rfl⟩) (by decide +kernel)
theorem t_118_11 : am_ok lw_Ts cJ7_fill_53178 4 RJ7 11 (o_il 12 2) := so_il (Or.inl ⟨2, rfl, rfl, rfl⟩) (by decide +kernel)
theorem t_118_12 : am_ok lw_Ts cJ7_fill_53178 4 RJ7 12 (o_il 13 1) := so_il (Or.inl ⟨1, rfl, rfl, rfl⟩) (by decide +kernel)
theorem t_118_13 : am_ok lw_Ts cJ7_fill_53178 4 RJ7 13 (o_iw 14) := so_iw (by decide +kernel)
theorem t_118_14 : am_ok lw_Ts cJ7_fill_53178 4 RJ7 14 (o_ii 17 2 (1)) := so_ii (by decide +kernel)
theorem t_118_17 : am_ok lw_Ts cJ7_fill_53178 4 RJ7 17 (o_go 5) := so_go (off := (-12)) (by decide +kernel) rfl
theorem t_118_20 : am_okr cJ7_fill_53178 20 0 := (show decode cJ7_fill_53178 20 = .ok (.return_, 1) by decide +kernel)
set_option maxRecDepth 20000 in
theorem ok_118 : am_okL gm_mi gm_mt lw_Ts lw_Ns 118 cd_118 := ⟨t_118_0, t_118_1, t_118_2, t_118_3, t_118_4, t_118_5, t_118_6, t_118_7, t_118_10, t_118_11, t_118_12, t_118_13, t_118_14, t_118_17, t_118_20, trivial⟩
