/-! constructors: words and decoding -/
theorem wk_72 : (.methodLink "SeasonOfHours$Modes" 3 objectInit : Cond) ∈ lw_Ts := am_mem 72 (by decide +kernel) rfl
theorem wk_65 : (.instanceMethod objectInit : Cond) ∈ lw_Ts := am_mem 65 (by decide +kernel) rfl
theorem wk_66 : (.code objectInit ⟨#[0xb1]⟩ 1 none : Cond) ∈ lw_Ts := am_mem 66 (by decide +kernel) rfl
theorem wk_91 : (.arrayClass .int : Cond) ∈ lw_Ts := am_mem 91 (by decide +kernel) rfl
theorem wk_73 : (.fieldLink "SeasonOfHours$Modes" 9 "SeasonOfHours$Modes" "notes" "[I" : Cond) ∈ lw_Ts := am_mem 73 (by decide +kernel) rfl
theorem wk_74 : (.fieldLink "SeasonOfHours$Modes" 15 "SeasonOfHours$Modes" "hours" "[I" : Cond) ∈ lw_Ts := am_mem 74 (by decide +kernel) rfl
theorem wk_77 : (.fieldLink "SeasonOfHours$Modes" 18 "SeasonOfHours$Modes" "size" "I" : Cond) ∈ lw_Ts := am_mem 77 (by decide +kernel) rfl
theorem wk_80 : (.fieldLink "SeasonOfHours$Modes" 22 "SeasonOfHours$Modes" "limit" "I" : Cond) ∈ lw_Ts := am_mem 80 (by decide +kernel) rfl
theorem wk_97 : (.methodLink "SeasonOfHours$Artists" 3 objectInit : Cond) ∈ lw_Ts := am_mem 97 (by decide +kernel) rfl
theorem wk_100 : (.fieldLink "SeasonOfHours$Artists" 9 "SeasonOfHours$Artists" "ranks" "[I" : Cond) ∈ lw_Ts := am_mem 100 (by decide +kernel) rfl
theorem wk_104 : (.fieldLink "SeasonOfHours$Artists" 15 "SeasonOfHours$Artists" "rivals" "[I" : Cond) ∈ lw_Ts := am_mem 104 (by decide +kernel) rfl
theorem wk_98 : (.classLink "SeasonOfHours$Artists" 18 "[[I" : Cond) ∈ lw_Ts := am_mem 98 (by decide +kernel) rfl
theorem wk_108 : (.fieldLink "SeasonOfHours$Artists" 20 "SeasonOfHours$Artists" "likings" "[[I" : Cond) ∈ lw_Ts := am_mem 108 (by decide +kernel) rfl
theorem wk_112 : (.fieldLink "SeasonOfHours$Artists" 23 "SeasonOfHours$Artists" "sick" "I" : Cond) ∈ lw_Ts := am_mem 112 (by decide +kernel) rfl
theorem wk_116 : (.fieldLink "SeasonOfHours$Artists" 27 "SeasonOfHours$Artists" "size" "I" : Cond) ∈ lw_Ts := am_mem 116 (by decide +kernel) rfl
theorem wk_221 : (.methodLink "SeasonOfHours$Pieces" 3 objectInit : Cond) ∈ lw_Ts := am_mem 221 (by decide +kernel) rfl
theorem wk_223 : (.fieldLink "SeasonOfHours$Pieces" 9 "SeasonOfHours$Pieces" "modeOf" "[I" : Cond) ∈ lw_Ts := am_mem 223 (by decide +kernel) rfl
theorem wk_224 : (.fieldLink "SeasonOfHours$Pieces" 15 "SeasonOfHours$Pieces" "minutes" "[I" : Cond) ∈ lw_Ts := am_mem 224 (by decide +kernel) rfl
theorem wk_225 : (.fieldLink "SeasonOfHours$Pieces" 18 "SeasonOfHours$Pieces" "likings" "[I" : Cond) ∈ lw_Ts := am_mem 225 (by decide +kernel) rfl
theorem wk_226 : (.fieldLink "SeasonOfHours$Pieces" 21 "SeasonOfHours$Pieces" "lastDays" "[I" : Cond) ∈ lw_Ts := am_mem 226 (by decide +kernel) rfl
theorem wk_228 : (.fieldLink "SeasonOfHours$Pieces" 24 "SeasonOfHours$Pieces" "followers" "[I" : Cond) ∈ lw_Ts := am_mem 228 (by decide +kernel) rfl
theorem wk_229 : (.fieldLink "SeasonOfHours$Pieces" 27 "SeasonOfHours$Pieces" "latest" "[I" : Cond) ∈ lw_Ts := am_mem 229 (by decide +kernel) rfl
theorem wk_231 : (.fieldLink "SeasonOfHours$Pieces" 30 "SeasonOfHours$Pieces" "firsts" "[I" : Cond) ∈ lw_Ts := am_mem 231 (by decide +kernel) rfl
theorem wk_232 : (.fieldLink "SeasonOfHours$Pieces" 33 "SeasonOfHours$Pieces" "mains" "I" : Cond) ∈ lw_Ts := am_mem 232 (by decide +kernel) rfl
theorem wk_233 : (.fieldLink "SeasonOfHours$Pieces" 37 "SeasonOfHours$Pieces" "size" "I" : Cond) ∈ lw_Ts := am_mem 233 (by decide +kernel) rfl
theorem wk_235 : (.fieldLink "SeasonOfHours$Pieces" 40 "SeasonOfHours$Pieces" "rest" "I" : Cond) ∈ lw_Ts := am_mem 235 (by decide +kernel) rfl
theorem wk_237 : (.fieldLink "SeasonOfHours$Pieces" 43 "SeasonOfHours$Pieces" "latestSize" "I" : Cond) ∈ lw_Ts := am_mem 237 (by decide +kernel) rfl
theorem wk_222 : (.fieldLink "SeasonOfHours$Pieces" 46 "SeasonOfHours$Pieces" "modes" "LSeasonOfHours$Modes;" : Cond) ∈ lw_Ts := am_mem 222 (by decide +kernel) rfl
theorem wk_269 : (.methodLink "SeasonOfHours$Jury" 3 objectInit : Cond) ∈ lw_Ts := am_mem 269 (by decide +kernel) rfl
theorem wk_270 : (.classLink "SeasonOfHours$Jury" 9 "[[I" : Cond) ∈ lw_Ts := am_mem 270 (by decide +kernel) rfl
theorem wk_272 : (.fieldLink "SeasonOfHours$Jury" 11 "SeasonOfHours$Jury" "rows" "[[I" : Cond) ∈ lw_Ts := am_mem 272 (by decide +kernel) rfl
theorem wk_273 : (.fieldLink "SeasonOfHours$Jury" 16 "SeasonOfHours$Jury" "sizes" "[I" : Cond) ∈ lw_Ts := am_mem 273 (by decide +kernel) rfl
theorem wk_274 : (.fieldLink "SeasonOfHours$Jury" 20 "SeasonOfHours$Jury" "families" "[I" : Cond) ∈ lw_Ts := am_mem 274 (by decide +kernel) rfl
theorem wk_276 : (.fieldLink "SeasonOfHours$Jury" 23 "SeasonOfHours$Jury" "sums" "[I" : Cond) ∈ lw_Ts := am_mem 276 (by decide +kernel) rfl
theorem wk_271 : (.fieldLink "SeasonOfHours$Jury" 26 "SeasonOfHours$Jury" "artists" "LSeasonOfHours$Artists;" : Cond) ∈ lw_Ts := am_mem 271 (by decide +kernel) rfl
theorem wk_177 : (.methodLink "SeasonOfHours$Planner" 5 objectInit : Cond) ∈ lw_Ts := am_mem 177 (by decide +kernel) rfl
theorem wk_178 : (.classLink "SeasonOfHours$Planner" 11 "[[J" : Cond) ∈ lw_Ts := am_mem 178 (by decide +kernel) rfl
theorem wk_215 : (.arrayClass .long : Cond) ∈ lw_Ts := am_mem 215 (by decide +kernel) rfl
theorem wk_184 : (.fieldLink "SeasonOfHours$Planner" 13 "SeasonOfHours$Planner" "values" "[[J" : Cond) ∈ lw_Ts := am_mem 184 (by decide +kernel) rfl
theorem wk_180 : (.classLink "SeasonOfHours$Planner" 18 "[[I" : Cond) ∈ lw_Ts := am_mem 180 (by decide +kernel) rfl
theorem wk_185 : (.fieldLink "SeasonOfHours$Planner" 20 "SeasonOfHours$Planner" "choices" "[[I" : Cond) ∈ lw_Ts := am_mem 185 (by decide +kernel) rfl
theorem wk_186 : (.fieldLink "SeasonOfHours$Planner" 23 "SeasonOfHours$Planner" "choiceCounts" "[I" : Cond) ∈ lw_Ts := am_mem 186 (by decide +kernel) rfl
theorem wk_187 : (.fieldLink "SeasonOfHours$Planner" 27 "SeasonOfHours$Planner" "followers" "[I" : Cond) ∈ lw_Ts := am_mem 187 (by decide +kernel) rfl
theorem wk_188 : (.fieldLink "SeasonOfHours$Planner" 30 "SeasonOfHours$Planner" "farModes" "[I" : Cond) ∈ lw_Ts := am_mem 188 (by decide +kernel) rfl
theorem wk_189 : (.fieldLink "SeasonOfHours$Planner" 33 "SeasonOfHours$Planner" "ofCompany" "[J" : Cond) ∈ lw_Ts := am_mem 189 (by decide +kernel) rfl
theorem wk_190 : (.fieldLink "SeasonOfHours$Planner" 37 "SeasonOfHours$Planner" "ofLater" "[J" : Cond) ∈ lw_Ts := am_mem 190 (by decide +kernel) rfl
theorem wk_191 : (.fieldLink "SeasonOfHours$Planner" 40 "SeasonOfHours$Planner" "firstSlot" "I" : Cond) ∈ lw_Ts := am_mem 191 (by decide +kernel) rfl
theorem wk_181 : (.fieldLink "SeasonOfHours$Planner" 44 "SeasonOfHours$Planner" "modes" "LSeasonOfHours$Modes;" : Cond) ∈ lw_Ts := am_mem 181 (by decide +kernel) rfl
theorem wk_182 : (.fieldLink "SeasonOfHours$Planner" 48 "SeasonOfHours$Planner" "artists" "LSeasonOfHours$Artists;" : Cond) ∈ lw_Ts := am_mem 182 (by decide +kernel) rfl
theorem wk_183 : (.fieldLink "SeasonOfHours$Planner" 52 "SeasonOfHours$Planner" "programme" "LSeasonOfHours$Programme;" : Cond) ∈ lw_Ts := am_mem 183 (by decide +kernel) rfl
theorem wk_136 : (.methodLink "SeasonOfHours$Programme" 3 objectInit : Cond) ∈ lw_Ts := am_mem 136 (by decide +kernel) rfl
theorem wk_146 : (.fieldLink "SeasonOfHours$Programme" 9 "SeasonOfHours$Programme" "options" "[I" : Cond) ∈ lw_Ts := am_mem 146 (by decide +kernel) rfl
theorem wk_149 : (.fieldLink "SeasonOfHours$Programme" 15 "SeasonOfHours$Programme" "hourOf" "[I" : Cond) ∈ lw_Ts := am_mem 149 (by decide +kernel) rfl
theorem wk_144 : (.fieldLink "SeasonOfHours$Programme" 18 "SeasonOfHours$Programme" "modes" "LSeasonOfHours$Modes;" : Cond) ∈ lw_Ts := am_mem 144 (by decide +kernel) rfl
theorem wk_145 : (.fieldLink "SeasonOfHours$Programme" 22 "SeasonOfHours$Programme" "artists" "LSeasonOfHours$Artists;" : Cond) ∈ lw_Ts := am_mem 145 (by decide +kernel) rfl
theorem wk_704 : (.methodLink "SeasonOfHoursModel" 3 objectInit : Cond) ∈ lw_Ts := am_mem 704 (by decide +kernel) rfl
theorem wk_709 : (.fieldLink "SeasonOfHoursModel" 9 "SeasonOfHoursModel" "notes" "[I" : Cond) ∈ lw_Ts := am_mem 709 (by decide +kernel) rfl
theorem wk_710 : (.fieldLink "SeasonOfHoursModel" 13 "SeasonOfHoursModel" "hours" "[I" : Cond) ∈ lw_Ts := am_mem 710 (by decide +kernel) rfl
theorem wk_712 : (.fieldLink "SeasonOfHoursModel" 16 "SeasonOfHoursModel" "rank" "[I" : Cond) ∈ lw_Ts := am_mem 712 (by decide +kernel) rfl
theorem wk_821 : (.arrayClass .boolean : Cond) ∈ lw_Ts := am_mem 821 (by decide +kernel) rfl
theorem wk_713 : (.fieldLink "SeasonOfHoursModel" 19 "SeasonOfHoursModel" "ill" "[Z" : Cond) ∈ lw_Ts := am_mem 713 (by decide +kernel) rfl
theorem wk_714 : (.fieldLink "SeasonOfHoursModel" 23 "SeasonOfHoursModel" "liking" "[I" : Cond) ∈ lw_Ts := am_mem 714 (by decide +kernel) rfl
theorem wk_715 : (.fieldLink "SeasonOfHoursModel" 26 "SeasonOfHoursModel" "rivals" "[Z" : Cond) ∈ lw_Ts := am_mem 715 (by decide +kernel) rfl
theorem wk_717 : (.fieldLink "SeasonOfHoursModel" 29 "SeasonOfHoursModel" "limit" "I" : Cond) ∈ lw_Ts := am_mem 717 (by decide +kernel) rfl
theorem wk_718 : (.fieldLink "SeasonOfHoursModel" 33 "SeasonOfHoursModel" "rest" "I" : Cond) ∈ lw_Ts := am_mem 718 (by decide +kernel) rfl
theorem wk_719 : (.fieldLink "SeasonOfHoursModel" 36 "SeasonOfHoursModel" "evenings" "I" : Cond) ∈ lw_Ts := am_mem 719 (by decide +kernel) rfl
theorem wk_720 : (.fieldLink "SeasonOfHoursModel" 39 "SeasonOfHoursModel" "slots" "I" : Cond) ∈ lw_Ts := am_mem 720 (by decide +kernel) rfl
theorem wk_721 : (.fieldLink "SeasonOfHoursModel" 42 "SeasonOfHoursModel" "who" "[I" : Cond) ∈ lw_Ts := am_mem 721 (by decide +kernel) rfl
theorem wk_722 : (.fieldLink "SeasonOfHoursModel" 45 "SeasonOfHoursModel" "what" "[I" : Cond) ∈ lw_Ts := am_mem 722 (by decide +kernel) rfl
theorem wk_723 : (.fieldLink "SeasonOfHoursModel" 48 "SeasonOfHoursModel" "pieceMode" "[I" : Cond) ∈ lw_Ts := am_mem 723 (by decide +kernel) rfl
theorem wk_724 : (.fieldLink "SeasonOfHoursModel" 51 "SeasonOfHoursModel" "minutes" "[I" : Cond) ∈ lw_Ts := am_mem 724 (by decide +kernel) rfl
theorem wk_725 : (.fieldLink "SeasonOfHoursModel" 54 "SeasonOfHoursModel" "worth" "[I" : Cond) ∈ lw_Ts := am_mem 725 (by decide +kernel) rfl
theorem wk_726 : (.fieldLink "SeasonOfHoursModel" 57 "SeasonOfHoursModel" "isMain" "[Z" : Cond) ∈ lw_Ts := am_mem 726 (by decide +kernel) rfl
theorem wk_727 : (.fieldLink "SeasonOfHoursModel" 60 "SeasonOfHoursModel" "last" "[I" : Cond) ∈ lw_Ts := am_mem 727 (by decide +kernel) rfl
theorem wk_729 : (.fieldLink "SeasonOfHoursModel" 63 "SeasonOfHoursModel" "row" "[I" : Cond) ∈ lw_Ts := am_mem 729 (by decide +kernel) rfl
theorem wk_731 : (.fieldLink "SeasonOfHoursModel" 66 "SeasonOfHoursModel" "votes" "[I" : Cond) ∈ lw_Ts := am_mem 731 (by decide +kernel) rfl
theorem wk_732 : (.fieldLink "SeasonOfHoursModel" 69 "SeasonOfHoursModel" "voted" "[I" : Cond) ∈ lw_Ts := am_mem 732 (by decide +kernel) rfl
theorem wk_733 : (.fieldLink "SeasonOfHoursModel" 72 "SeasonOfHoursModel" "kin" "[Z" : Cond) ∈ lw_Ts := am_mem 733 (by decide +kernel) rfl
theorem wk_735 : (.fieldLink "SeasonOfHoursModel" 75 "SeasonOfHoursModel" "wasWho" "[I" : Cond) ∈ lw_Ts := am_mem 735 (by decide +kernel) rfl
theorem wk_736 : (.fieldLink "SeasonOfHoursModel" 78 "SeasonOfHoursModel" "wasWhat" "[I" : Cond) ∈ lw_Ts := am_mem 736 (by decide +kernel) rfl
theorem wk_737 : (.fieldLink "SeasonOfHoursModel" 81 "SeasonOfHoursModel" "value" "[I" : Cond) ∈ lw_Ts := am_mem 737 (by decide +kernel) rfl
theorem wk_738 : (.fieldLink "SeasonOfHoursModel" 84 "SeasonOfHoursModel" "bestWho" "[I" : Cond) ∈ lw_Ts := am_mem 738 (by decide +kernel) rfl
theorem wk_739 : (.fieldLink "SeasonOfHoursModel" 87 "SeasonOfHoursModel" "bestWhat" "[I" : Cond) ∈ lw_Ts := am_mem 739 (by decide +kernel) rfl
theorem wk_740 : (.fieldLink "SeasonOfHoursModel" 90 "SeasonOfHoursModel" "trySet" "[I" : Cond) ∈ lw_Ts := am_mem 740 (by decide +kernel) rfl
theorem wk_741 : (.fieldLink "SeasonOfHoursModel" 93 "SeasonOfHoursModel" "foundSet" "[I" : Cond) ∈ lw_Ts := am_mem 741 (by decide +kernel) rfl
theorem wk_743 : (.fieldLink "SeasonOfHoursModel" 96 "SeasonOfHoursModel" "firsts" "[I" : Cond) ∈ lw_Ts := am_mem 743 (by decide +kernel) rfl
theorem wk_744 : (.fieldLink "SeasonOfHoursModel" 99 "SeasonOfHoursModel" "tryRow" "[I" : Cond) ∈ lw_Ts := am_mem 744 (by decide +kernel) rfl
theorem wk_745 : (.fieldLink "SeasonOfHoursModel" 102 "SeasonOfHoursModel" "goodRow" "[I" : Cond) ∈ lw_Ts := am_mem 745 (by decide +kernel) rfl
theorem dc_X2_init_0 : decode cX2_init 0 = .ok (.aload_n 0, 1) := by decide +kernel
theorem dc_X2_init_1 : decode cX2_init 1 = .ok (.invokespecial 3, 3) := by decide +kernel
theorem dc_X2_init_4 : decode cX2_init 4 = .ok (.aload_n 0, 1) := by decide +kernel
theorem dc_X2_init_5 : decode cX2_init 5 = .ok (.bipush 6, 2) := by decide +kernel
theorem dc_X2_init_7 : decode cX2_init 7 = .ok (.newarray .int, 2) := by decide +kernel
theorem dc_X2_init_9 : decode cX2_init 9 = .ok (.putfield 9, 3) := by decide +kernel
theorem dc_X2_init_12 : decode cX2_init 12 = .ok (.aload_n 0, 1) := by decide +kernel
theorem dc_X2_init_13 : decode cX2_init 13 = .ok (.bipush 6, 2) := by decide +kernel
theorem dc_X2_init_15 : decode cX2_init 15 = .ok (.newarray .int, 2) := by decide +kernel
theorem dc_X2_init_17 : decode cX2_init 17 = .ok (.putfield 15, 3) := by decide +kernel
theorem dc_X2_init_20 : decode cX2_init 20 = .ok (.aload_n 0, 1) := by decide +kernel
theorem dc_X2_init_21 : decode cX2_init 21 = .ok (.iconst 0, 1) := by decide +kernel
theorem dc_X2_init_22 : decode cX2_init 22 = .ok (.putfield 18, 3) := by decide +kernel
theorem dc_X2_init_25 : decode cX2_init 25 = .ok (.aload_n 0, 1) := by decide +kernel
theorem dc_X2_init_26 : decode cX2_init 26 = .ok (.bipush 12, 2) := by decide +kernel
theorem dc_X2_init_28 : decode cX2_init 28 = .ok (.putfield 22, 3) := by decide +kernel
theorem dc_X2_init_31 : decode cX2_init 31 = .ok (.return_, 1) := by decide +kernel
theorem dc_X0_init_0 : decode cX0_init 0 = .ok (.aload_n 0, 1) := by decide +kernel
theorem dc_X0_init_1 : decode cX0_init 1 = .ok (.invokespecial 3, 3) := by decide +kernel
theorem dc_X0_init_4 : decode cX0_init 4 = .ok (.aload_n 0, 1) := by decide +kernel
theorem dc_X0_init_5 : decode cX0_init 5 = .ok (.bipush 6, 2) := by decide +kernel
theorem dc_X0_init_7 : decode cX0_init 7 = .ok (.newarray .int, 2) := by decide +kernel
theorem dc_X0_init_9 : decode cX0_init 9 = .ok (.putfield 9, 3) := by decide +kernel
theorem dc_X0_init_12 : decode cX0_init 12 = .ok (.aload_n 0, 1) := by decide +kernel
theorem dc_X0_init_13 : decode cX0_init 13 = .ok (.bipush 6, 2) := by decide +kernel
theorem dc_X0_init_15 : decode cX0_init 15 = .ok (.newarray .int, 2) := by decide +kernel
theorem dc_X0_init_17 : decode cX0_init 17 = .ok (.putfield 15, 3) := by decide +kernel
theorem dc_X0_init_20 : decode cX0_init 20 = .ok (.aload_n 0, 1) := by decide +kernel
theorem dc_X0_init_21 : decode cX0_init 21 = .ok (.bipush 6, 2) := by decide +kernel
theorem dc_X0_init_23 : decode cX0_init 23 = .ok (.bipush 6, 2) := by decide +kernel
theorem dc_X0_init_25 : decode cX0_init 25 = .ok (.multianewarray 18 2, 4) := by decide +kernel
theorem dc_X0_init_29 : decode cX0_init 29 = .ok (.putfield 20, 3) := by decide +kernel
theorem dc_X0_init_32 : decode cX0_init 32 = .ok (.aload_n 0, 1) := by decide +kernel
theorem dc_X0_init_33 : decode cX0_init 33 = .ok (.iconst 0, 1) := by decide +kernel
theorem dc_X0_init_34 : decode cX0_init 34 = .ok (.putfield 23, 3) := by decide +kernel
theorem dc_X0_init_37 : decode cX0_init 37 = .ok (.aload_n 0, 1) := by decide +kernel
theorem dc_X0_init_38 : decode cX0_init 38 = .ok (.iconst 0, 1) := by decide +kernel
theorem dc_X0_init_39 : decode cX0_init 39 = .ok (.putfield 27, 3) := by decide +kernel
theorem dc_X0_init_42 : decode cX0_init 42 = .ok (.return_, 1) := by decide +kernel
theorem dc_X3_init_0 : decode cX3_init 0 = .ok (.aload_n 0, 1) := by decide +kernel
theorem dc_X3_init_1 : decode cX3_init 1 = .ok (.invokespecial 3, 3) := by decide +kernel
theorem dc_X3_init_4 : decode cX3_init 4 = .ok (.aload_n 0, 1) := by decide +kernel
theorem dc_X3_init_5 : decode cX3_init 5 = .ok (.bipush 10, 2) := by decide +kernel
theorem dc_X3_init_7 : decode cX3_init 7 = .ok (.newarray .int, 2) := by decide +kernel
theorem dc_X3_init_9 : decode cX3_init 9 = .ok (.putfield 9, 3) := by decide +kernel
theorem dc_X3_init_12 : decode cX3_init 12 = .ok (.aload_n 0, 1) := by decide +kernel
theorem dc_X3_init_13 : decode cX3_init 13 = .ok (.bipush 10, 2) := by decide +kernel
theorem dc_X3_init_15 : decode cX3_init 15 = .ok (.newarray .int, 2) := by decide +kernel
theorem dc_X3_init_17 : decode cX3_init 17 = .ok (.putfield 15, 3) := by decide +kernel
theorem dc_X3_init_20 : decode cX3_init 20 = .ok (.aload_n 0, 1) := by decide +kernel
theorem dc_X3_init_21 : decode cX3_init 21 = .ok (.bipush 10, 2) := by decide +kernel
theorem dc_X3_init_23 : decode cX3_init 23 = .ok (.newarray .int, 2) := by decide +kernel
theorem dc_X3_init_25 : decode cX3_init 25 = .ok (.putfield 18, 3) := by decide +kernel
theorem dc_X3_init_28 : decode cX3_init 28 = .ok (.aload_n 0, 1) := by decide +kernel
theorem dc_X3_init_29 : decode cX3_init 29 = .ok (.bipush 10, 2) := by decide +kernel
theorem dc_X3_init_31 : decode cX3_init 31 = .ok (.newarray .int, 2) := by decide +kernel
theorem dc_X3_init_33 : decode cX3_init 33 = .ok (.putfield 21, 3) := by decide +kernel
theorem dc_X3_init_36 : decode cX3_init 36 = .ok (.aload_n 0, 1) := by decide +kernel
theorem dc_X3_init_37 : decode cX3_init 37 = .ok (.bipush 10, 2) := by decide +kernel
theorem dc_X3_init_39 : decode cX3_init 39 = .ok (.newarray .int, 2) := by decide +kernel
theorem dc_X3_init_41 : decode cX3_init 41 = .ok (.putfield 24, 3) := by decide +kernel
theorem dc_X3_init_44 : decode cX3_init 44 = .ok (.aload_n 0, 1) := by decide +kernel
theorem dc_X3_init_45 : decode cX3_init 45 = .ok (.bipush 10, 2) := by decide +kernel
theorem dc_X3_init_47 : decode cX3_init 47 = .ok (.newarray .int, 2) := by decide +kernel
theorem dc_X3_init_49 : decode cX3_init 49 = .ok (.putfield 27, 3) := by decide +kernel
theorem dc_X3_init_52 : decode cX3_init 52 = .ok (.aload_n 0, 1) := by decide +kernel
theorem dc_X3_init_53 : decode cX3_init 53 = .ok (.sipush 1024, 3) := by decide +kernel
theorem dc_X3_init_56 : decode cX3_init 56 = .ok (.newarray .int, 2) := by decide +kernel
theorem dc_X3_init_58 : decode cX3_init 58 = .ok (.putfield 30, 3) := by decide +kernel
theorem dc_X3_init_61 : decode cX3_init 61 = .ok (.aload_n 0, 1) := by decide +kernel
theorem dc_X3_init_62 : decode cX3_init 62 = .ok (.iconst 0, 1) := by decide +kernel
theorem dc_X3_init_63 : decode cX3_init 63 = .ok (.putfield 33, 3) := by decide +kernel
theorem dc_X3_init_66 : decode cX3_init 66 = .ok (.aload_n 0, 1) := by decide +kernel
theorem dc_X3_init_67 : decode cX3_init 67 = .ok (.iconst 0, 1) := by decide +kernel
theorem dc_X3_init_68 : decode cX3_init 68 = .ok (.putfield 37, 3) := by decide +kernel
theorem dc_X3_init_71 : decode cX3_init 71 = .ok (.aload_n 0, 1) := by decide +kernel
theorem dc_X3_init_72 : decode cX3_init 72 = .ok (.bipush 7, 2) := by decide +kernel
theorem dc_X3_init_74 : decode cX3_init 74 = .ok (.putfield 40, 3) := by decide +kernel
theorem dc_X3_init_77 : decode cX3_init 77 = .ok (.aload_n 0, 1) := by decide +kernel
theorem dc_X3_init_78 : decode cX3_init 78 = .ok (.iconst 0, 1) := by decide +kernel
theorem dc_X3_init_79 : decode cX3_init 79 = .ok (.putfield 43, 3) := by decide +kernel
theorem dc_X3_init_82 : decode cX3_init 82 = .ok (.aload_n 0, 1) := by decide +kernel
theorem dc_X3_init_83 : decode cX3_init 83 = .ok (.aload_n 1, 1) := by decide +kernel
theorem dc_X3_init_84 : decode cX3_init 84 = .ok (.putfield 46, 3) := by decide +kernel
theorem dc_X3_init_87 : decode cX3_init 87 = .ok (.return_, 1) := by decide +kernel
theorem dc_X1_init_0 : decode cX1_init 0 = .ok (.aload_n 0, 1) := by decide +kernel
theorem dc_X1_init_1 : decode cX1_init 1 = .ok (.invokespecial 3, 3) := by decide +kernel
theorem dc_X1_init_4 : decode cX1_init 4 = .ok (.aload_n 0, 1) := by decide +kernel
theorem dc_X1_init_5 : decode cX1_init 5 = .ok (.bipush 7, 2) := by decide +kernel
theorem dc_X1_init_7 : decode cX1_init 7 = .ok (.bipush 6, 2) := by decide +kernel
theorem dc_X1_init_9 : decode cX1_init 9 = .ok (.multianewarray 9 2, 4) := by decide +kernel
theorem dc_X1_init_13 : decode cX1_init 13 = .ok (.putfield 11, 3) := by decide +kernel
theorem dc_X1_init_16 : decode cX1_init 16 = .ok (.aload_n 0, 1) := by decide +kernel
theorem dc_X1_init_17 : decode cX1_init 17 = .ok (.bipush 7, 2) := by decide +kernel
theorem dc_X1_init_19 : decode cX1_init 19 = .ok (.newarray .int, 2) := by decide +kernel
theorem dc_X1_init_21 : decode cX1_init 21 = .ok (.putfield 16, 3) := by decide +kernel
theorem dc_X1_init_24 : decode cX1_init 24 = .ok (.aload_n 0, 1) := by decide +kernel
theorem dc_X1_init_25 : decode cX1_init 25 = .ok (.bipush 7, 2) := by decide +kernel
theorem dc_X1_init_27 : decode cX1_init 27 = .ok (.newarray .int, 2) := by decide +kernel
theorem dc_X1_init_29 : decode cX1_init 29 = .ok (.putfield 20, 3) := by decide +kernel
theorem dc_X1_init_32 : decode cX1_init 32 = .ok (.aload_n 0, 1) := by decide +kernel
theorem dc_X1_init_33 : decode cX1_init 33 = .ok (.bipush 6, 2) := by decide +kernel
theorem dc_X1_init_35 : decode cX1_init 35 = .ok (.newarray .int, 2) := by decide +kernel
theorem dc_X1_init_37 : decode cX1_init 37 = .ok (.putfield 23, 3) := by decide +kernel
theorem dc_X1_init_40 : decode cX1_init 40 = .ok (.aload_n 0, 1) := by decide +kernel
theorem dc_X1_init_41 : decode cX1_init 41 = .ok (.aload_n 1, 1) := by decide +kernel
theorem dc_X1_init_42 : decode cX1_init 42 = .ok (.putfield 26, 3) := by decide +kernel
theorem dc_X1_init_45 : decode cX1_init 45 = .ok (.return_, 1) := by decide +kernel
theorem dc_X4_init_0 : decode cX4_init 0 = .ok (.aload_n 0, 1) := by decide +kernel
theorem dc_X4_init_1 : decode cX4_init 1 = .ok (.invokespecial 5, 3) := by decide +kernel
theorem dc_X4_init_4 : decode cX4_init 4 = .ok (.aload_n 0, 1) := by decide +kernel
theorem dc_X4_init_5 : decode cX4_init 5 = .ok (.bipush 6, 2) := by decide +kernel
theorem dc_X4_init_7 : decode cX4_init 7 = .ok (.bipush 37, 2) := by decide +kernel
theorem dc_X4_init_9 : decode cX4_init 9 = .ok (.multianewarray 11 2, 4) := by decide +kernel
theorem dc_X4_init_13 : decode cX4_init 13 = .ok (.putfield 13, 3) := by decide +kernel
theorem dc_X4_init_16 : decode cX4_init 16 = .ok (.aload_n 0, 1) := by decide +kernel
theorem dc_X4_init_17 : decode cX4_init 17 = .ok (.iconst 3, 1) := by decide +kernel
theorem dc_X4_init_18 : decode cX4_init 18 = .ok (.bipush 36, 2) := by decide +kernel
theorem dc_X4_init_20 : decode cX4_init 20 = .ok (.multianewarray 18 2, 4) := by decide +kernel
theorem dc_X4_init_24 : decode cX4_init 24 = .ok (.putfield 20, 3) := by decide +kernel
theorem dc_X4_init_27 : decode cX4_init 27 = .ok (.aload_n 0, 1) := by decide +kernel
theorem dc_X4_init_28 : decode cX4_init 28 = .ok (.iconst 3, 1) := by decide +kernel
theorem dc_X4_init_29 : decode cX4_init 29 = .ok (.newarray .int, 2) := by decide +kernel
theorem dc_X4_init_31 : decode cX4_init 31 = .ok (.putfield 23, 3) := by decide +kernel
theorem dc_X4_init_34 : decode cX4_init 34 = .ok (.aload_n 0, 1) := by decide +kernel
theorem dc_X4_init_35 : decode cX4_init 35 = .ok (.bipush 6, 2) := by decide +kernel
theorem dc_X4_init_37 : decode cX4_init 37 = .ok (.newarray .int, 2) := by decide +kernel
theorem dc_X4_init_39 : decode cX4_init 39 = .ok (.putfield 27, 3) := by decide +kernel
theorem dc_X4_init_42 : decode cX4_init 42 = .ok (.aload_n 0, 1) := by decide +kernel
theorem dc_X4_init_43 : decode cX4_init 43 = .ok (.bipush 6, 2) := by decide +kernel
theorem dc_X4_init_45 : decode cX4_init 45 = .ok (.newarray .int, 2) := by decide +kernel
theorem dc_X4_init_47 : decode cX4_init 47 = .ok (.putfield 30, 3) := by decide +kernel
theorem dc_X4_init_50 : decode cX4_init 50 = .ok (.aload_n 0, 1) := by decide +kernel
theorem dc_X4_init_51 : decode cX4_init 51 = .ok (.bipush 64, 2) := by decide +kernel
theorem dc_X4_init_53 : decode cX4_init 53 = .ok (.newarray .long, 2) := by decide +kernel
theorem dc_X4_init_55 : decode cX4_init 55 = .ok (.putfield 33, 3) := by decide +kernel
theorem dc_X4_init_58 : decode cX4_init 58 = .ok (.aload_n 0, 1) := by decide +kernel
theorem dc_X4_init_59 : decode cX4_init 59 = .ok (.bipush 64, 2) := by decide +kernel
theorem dc_X4_init_61 : decode cX4_init 61 = .ok (.newarray .long, 2) := by decide +kernel
theorem dc_X4_init_63 : decode cX4_init 63 = .ok (.putfield 37, 3) := by decide +kernel
theorem dc_X4_init_66 : decode cX4_init 66 = .ok (.aload_n 0, 1) := by decide +kernel
theorem dc_X4_init_67 : decode cX4_init 67 = .ok (.iconst 0, 1) := by decide +kernel
theorem dc_X4_init_68 : decode cX4_init 68 = .ok (.putfield 40, 3) := by decide +kernel
theorem dc_X4_init_71 : decode cX4_init 71 = .ok (.aload_n 0, 1) := by decide +kernel
theorem dc_X4_init_72 : decode cX4_init 72 = .ok (.aload_n 1, 1) := by decide +kernel
theorem dc_X4_init_73 : decode cX4_init 73 = .ok (.putfield 44, 3) := by decide +kernel
theorem dc_X4_init_76 : decode cX4_init 76 = .ok (.aload_n 0, 1) := by decide +kernel
theorem dc_X4_init_77 : decode cX4_init 77 = .ok (.aload_n 2, 1) := by decide +kernel
theorem dc_X4_init_78 : decode cX4_init 78 = .ok (.putfield 48, 3) := by decide +kernel
theorem dc_X4_init_81 : decode cX4_init 81 = .ok (.aload_n 0, 1) := by decide +kernel
theorem dc_X4_init_82 : decode cX4_init 82 = .ok (.aload_n 3, 1) := by decide +kernel
theorem dc_X4_init_83 : decode cX4_init 83 = .ok (.putfield 52, 3) := by decide +kernel
theorem dc_X4_init_86 : decode cX4_init 86 = .ok (.return_, 1) := by decide +kernel
theorem dc_X5_init_0 : decode cX5_init 0 = .ok (.aload_n 0, 1) := by decide +kernel
theorem dc_X5_init_1 : decode cX5_init 1 = .ok (.invokespecial 3, 3) := by decide +kernel
theorem dc_X5_init_4 : decode cX5_init 4 = .ok (.aload_n 0, 1) := by decide +kernel
theorem dc_X5_init_5 : decode cX5_init 5 = .ok (.bipush 6, 2) := by decide +kernel
theorem dc_X5_init_7 : decode cX5_init 7 = .ok (.newarray .int, 2) := by decide +kernel
theorem dc_X5_init_9 : decode cX5_init 9 = .ok (.putfield 9, 3) := by decide +kernel
theorem dc_X5_init_12 : decode cX5_init 12 = .ok (.aload_n 0, 1) := by decide +kernel
theorem dc_X5_init_13 : decode cX5_init 13 = .ok (.bipush 6, 2) := by decide +kernel
theorem dc_X5_init_15 : decode cX5_init 15 = .ok (.newarray .int, 2) := by decide +kernel
theorem dc_X5_init_17 : decode cX5_init 17 = .ok (.putfield 15, 3) := by decide +kernel
theorem dc_X5_init_20 : decode cX5_init 20 = .ok (.aload_n 0, 1) := by decide +kernel
theorem dc_X5_init_21 : decode cX5_init 21 = .ok (.aload_n 1, 1) := by decide +kernel
theorem dc_X5_init_22 : decode cX5_init 22 = .ok (.putfield 18, 3) := by decide +kernel
theorem dc_X5_init_25 : decode cX5_init 25 = .ok (.aload_n 0, 1) := by decide +kernel
theorem dc_X5_init_26 : decode cX5_init 26 = .ok (.aload_n 2, 1) := by decide +kernel
theorem dc_X5_init_27 : decode cX5_init 27 = .ok (.putfield 22, 3) := by decide +kernel
theorem dc_X5_init_30 : decode cX5_init 30 = .ok (.aload_n 0, 1) := by decide +kernel
theorem dc_X5_init_31 : decode cX5_init 31 = .ok (.iconst 1, 1) := by decide +kernel
theorem dc_X5_init_32 : decode cX5_init 32 = .ok (.iconst 1, 1) := by decide +kernel
theorem dc_X5_init_33 : decode cX5_init 33 = .ok (.invokevirtual 26, 3) := by decide +kernel
theorem dc_X5_init_36 : decode cX5_init 36 = .ok (.return_, 1) := by decide +kernel
theorem dc_X7_init_0 : decode cX7_init 0 = .ok (.aload_n 0, 1) := by decide +kernel
theorem dc_X7_init_1 : decode cX7_init 1 = .ok (.invokespecial 3, 3) := by decide +kernel
theorem dc_X7_init_4 : decode cX7_init 4 = .ok (.aload_n 0, 1) := by decide +kernel
theorem dc_X7_init_5 : decode cX7_init 5 = .ok (.bipush 6, 2) := by decide +kernel
theorem dc_X7_init_7 : decode cX7_init 7 = .ok (.newarray .int, 2) := by decide +kernel
theorem dc_X7_init_9 : decode cX7_init 9 = .ok (.putfield 9, 3) := by decide +kernel
theorem dc_X7_init_12 : decode cX7_init 12 = .ok (.aload_n 0, 1) := by decide +kernel
theorem dc_X7_init_13 : decode cX7_init 13 = .ok (.bipush 6, 2) := by decide +kernel
theorem dc_X7_init_15 : decode cX7_init 15 = .ok (.newarray .int, 2) := by decide +kernel
theorem dc_X7_init_17 : decode cX7_init 17 = .ok (.putfield 13, 3) := by decide +kernel
theorem dc_X7_init_20 : decode cX7_init 20 = .ok (.aload_n 0, 1) := by decide +kernel
theorem dc_X7_init_21 : decode cX7_init 21 = .ok (.bipush 6, 2) := by decide +kernel
theorem dc_X7_init_23 : decode cX7_init 23 = .ok (.newarray .int, 2) := by decide +kernel
theorem dc_X7_init_25 : decode cX7_init 25 = .ok (.putfield 16, 3) := by decide +kernel
theorem dc_X7_init_28 : decode cX7_init 28 = .ok (.aload_n 0, 1) := by decide +kernel
theorem dc_X7_init_29 : decode cX7_init 29 = .ok (.bipush 6, 2) := by decide +kernel
theorem dc_X7_init_31 : decode cX7_init 31 = .ok (.newarray .boolean, 2) := by decide +kernel
theorem dc_X7_init_33 : decode cX7_init 33 = .ok (.putfield 19, 3) := by decide +kernel
theorem dc_X7_init_36 : decode cX7_init 36 = .ok (.aload_n 0, 1) := by decide +kernel
theorem dc_X7_init_37 : decode cX7_init 37 = .ok (.bipush 36, 2) := by decide +kernel
theorem dc_X7_init_39 : decode cX7_init 39 = .ok (.newarray .int, 2) := by decide +kernel
theorem dc_X7_init_41 : decode cX7_init 41 = .ok (.putfield 23, 3) := by decide +kernel
theorem dc_X7_init_44 : decode cX7_init 44 = .ok (.aload_n 0, 1) := by decide +kernel
theorem dc_X7_init_45 : decode cX7_init 45 = .ok (.bipush 36, 2) := by decide +kernel
theorem dc_X7_init_47 : decode cX7_init 47 = .ok (.newarray .boolean, 2) := by decide +kernel
theorem dc_X7_init_49 : decode cX7_init 49 = .ok (.putfield 26, 3) := by decide +kernel
theorem dc_X7_init_52 : decode cX7_init 52 = .ok (.aload_n 0, 1) := by decide +kernel
theorem dc_X7_init_53 : decode cX7_init 53 = .ok (.bipush 12, 2) := by decide +kernel
theorem dc_X7_init_55 : decode cX7_init 55 = .ok (.putfield 29, 3) := by decide +kernel
theorem dc_X7_init_58 : decode cX7_init 58 = .ok (.aload_n 0, 1) := by decide +kernel
theorem dc_X7_init_59 : decode cX7_init 59 = .ok (.bipush 7, 2) := by decide +kernel
theorem dc_X7_init_61 : decode cX7_init 61 = .ok (.putfield 33, 3) := by decide +kernel
theorem dc_X7_init_64 : decode cX7_init 64 = .ok (.aload_n 0, 1) := by decide +kernel
theorem dc_X7_init_65 : decode cX7_init 65 = .ok (.iconst 1, 1) := by decide +kernel
theorem dc_X7_init_66 : decode cX7_init 66 = .ok (.putfield 36, 3) := by decide +kernel
theorem dc_X7_init_69 : decode cX7_init 69 = .ok (.aload_n 0, 1) := by decide +kernel
theorem dc_X7_init_70 : decode cX7_init 70 = .ok (.iconst 1, 1) := by decide +kernel
theorem dc_X7_init_71 : decode cX7_init 71 = .ok (.putfield 39, 3) := by decide +kernel
theorem dc_X7_init_74 : decode cX7_init 74 = .ok (.aload_n 0, 1) := by decide +kernel
theorem dc_X7_init_75 : decode cX7_init 75 = .ok (.bipush 6, 2) := by decide +kernel
theorem dc_X7_init_77 : decode cX7_init 77 = .ok (.newarray .int, 2) := by decide +kernel
theorem dc_X7_init_79 : decode cX7_init 79 = .ok (.putfield 42, 3) := by decide +kernel
theorem dc_X7_init_82 : decode cX7_init 82 = .ok (.aload_n 0, 1) := by decide +kernel
theorem dc_X7_init_83 : decode cX7_init 83 = .ok (.bipush 6, 2) := by decide +kernel
theorem dc_X7_init_85 : decode cX7_init 85 = .ok (.newarray .int, 2) := by decide +kernel
theorem dc_X7_init_87 : decode cX7_init 87 = .ok (.putfield 45, 3) := by decide +kernel
theorem dc_X7_init_90 : decode cX7_init 90 = .ok (.aload_n 0, 1) := by decide +kernel
theorem dc_X7_init_91 : decode cX7_init 91 = .ok (.bipush 10, 2) := by decide +kernel
theorem dc_X7_init_93 : decode cX7_init 93 = .ok (.newarray .int, 2) := by decide +kernel
theorem dc_X7_init_95 : decode cX7_init 95 = .ok (.putfield 48, 3) := by decide +kernel
theorem dc_X7_init_98 : decode cX7_init 98 = .ok (.aload_n 0, 1) := by decide +kernel
theorem dc_X7_init_99 : decode cX7_init 99 = .ok (.bipush 10, 2) := by decide +kernel
theorem dc_X7_init_101 : decode cX7_init 101 = .ok (.newarray .int, 2) := by decide +kernel
theorem dc_X7_init_103 : decode cX7_init 103 = .ok (.putfield 51, 3) := by decide +kernel
theorem dc_X7_init_106 : decode cX7_init 106 = .ok (.aload_n 0, 1) := by decide +kernel
theorem dc_X7_init_107 : decode cX7_init 107 = .ok (.bipush 10, 2) := by decide +kernel
theorem dc_X7_init_109 : decode cX7_init 109 = .ok (.newarray .int, 2) := by decide +kernel
theorem dc_X7_init_111 : decode cX7_init 111 = .ok (.putfield 54, 3) := by decide +kernel
theorem dc_X7_init_114 : decode cX7_init 114 = .ok (.aload_n 0, 1) := by decide +kernel
theorem dc_X7_init_115 : decode cX7_init 115 = .ok (.bipush 10, 2) := by decide +kernel
theorem dc_X7_init_117 : decode cX7_init 117 = .ok (.newarray .boolean, 2) := by decide +kernel
theorem dc_X7_init_119 : decode cX7_init 119 = .ok (.putfield 57, 3) := by decide +kernel
theorem dc_X7_init_122 : decode cX7_init 122 = .ok (.aload_n 0, 1) := by decide +kernel
theorem dc_X7_init_123 : decode cX7_init 123 = .ok (.bipush 10, 2) := by decide +kernel
theorem dc_X7_init_125 : decode cX7_init 125 = .ok (.newarray .int, 2) := by decide +kernel
theorem dc_X7_init_127 : decode cX7_init 127 = .ok (.putfield 60, 3) := by decide +kernel
theorem dc_X7_init_130 : decode cX7_init 130 = .ok (.aload_n 0, 1) := by decide +kernel
theorem dc_X7_init_131 : decode cX7_init 131 = .ok (.bipush 10, 2) := by decide +kernel
theorem dc_X7_init_133 : decode cX7_init 133 = .ok (.newarray .int, 2) := by decide +kernel
theorem dc_X7_init_135 : decode cX7_init 135 = .ok (.putfield 63, 3) := by decide +kernel
theorem dc_X7_init_138 : decode cX7_init 138 = .ok (.aload_n 0, 1) := by decide +kernel
theorem dc_X7_init_139 : decode cX7_init 139 = .ok (.bipush 42, 2) := by decide +kernel
theorem dc_X7_init_141 : decode cX7_init 141 = .ok (.newarray .int, 2) := by decide +kernel
theorem dc_X7_init_143 : decode cX7_init 143 = .ok (.putfield 66, 3) := by decide +kernel
theorem dc_X7_init_146 : decode cX7_init 146 = .ok (.aload_n 0, 1) := by decide +kernel
theorem dc_X7_init_147 : decode cX7_init 147 = .ok (.bipush 7, 2) := by decide +kernel
theorem dc_X7_init_149 : decode cX7_init 149 = .ok (.newarray .int, 2) := by decide +kernel
theorem dc_X7_init_151 : decode cX7_init 151 = .ok (.putfield 69, 3) := by decide +kernel
theorem dc_X7_init_154 : decode cX7_init 154 = .ok (.aload_n 0, 1) := by decide +kernel
theorem dc_X7_init_155 : decode cX7_init 155 = .ok (.bipush 42, 2) := by decide +kernel
theorem dc_X7_init_157 : decode cX7_init 157 = .ok (.newarray .boolean, 2) := by decide +kernel
theorem dc_X7_init_159 : decode cX7_init 159 = .ok (.putfield 72, 3) := by decide +kernel
theorem dc_X7_init_162 : decode cX7_init 162 = .ok (.aload_n 0, 1) := by decide +kernel
theorem dc_X7_init_163 : decode cX7_init 163 = .ok (.bipush 6, 2) := by decide +kernel
theorem dc_X7_init_165 : decode cX7_init 165 = .ok (.newarray .int, 2) := by decide +kernel
theorem dc_X7_init_167 : decode cX7_init 167 = .ok (.putfield 75, 3) := by decide +kernel
theorem dc_X7_init_170 : decode cX7_init 170 = .ok (.aload_n 0, 1) := by decide +kernel
theorem dc_X7_init_171 : decode cX7_init 171 = .ok (.bipush 6, 2) := by decide +kernel
theorem dc_X7_init_173 : decode cX7_init 173 = .ok (.newarray .int, 2) := by decide +kernel
theorem dc_X7_init_175 : decode cX7_init 175 = .ok (.putfield 78, 3) := by decide +kernel
theorem dc_X7_init_178 : decode cX7_init 178 = .ok (.aload_n 0, 1) := by decide +kernel
theorem dc_X7_init_179 : decode cX7_init 179 = .ok (.sipush 192, 3) := by decide +kernel
theorem dc_X7_init_182 : decode cX7_init 182 = .ok (.newarray .int, 2) := by decide +kernel
theorem dc_X7_init_184 : decode cX7_init 184 = .ok (.putfield 81, 3) := by decide +kernel
theorem dc_X7_init_187 : decode cX7_init 187 = .ok (.aload_n 0, 1) := by decide +kernel
theorem dc_X7_init_188 : decode cX7_init 188 = .ok (.sipush 576, 3) := by decide +kernel
theorem dc_X7_init_191 : decode cX7_init 191 = .ok (.newarray .int, 2) := by decide +kernel
theorem dc_X7_init_193 : decode cX7_init 193 = .ok (.putfield 84, 3) := by decide +kernel
theorem dc_X7_init_196 : decode cX7_init 196 = .ok (.aload_n 0, 1) := by decide +kernel
theorem dc_X7_init_197 : decode cX7_init 197 = .ok (.sipush 576, 3) := by decide +kernel
theorem dc_X7_init_200 : decode cX7_init 200 = .ok (.newarray .int, 2) := by decide +kernel
theorem dc_X7_init_202 : decode cX7_init 202 = .ok (.putfield 87, 3) := by decide +kernel
theorem dc_X7_init_205 : decode cX7_init 205 = .ok (.aload_n 0, 1) := by decide +kernel
theorem dc_X7_init_206 : decode cX7_init 206 = .ok (.iconst 3, 1) := by decide +kernel
theorem dc_X7_init_207 : decode cX7_init 207 = .ok (.newarray .int, 2) := by decide +kernel
theorem dc_X7_init_209 : decode cX7_init 209 = .ok (.putfield 90, 3) := by decide +kernel
theorem dc_X7_init_212 : decode cX7_init 212 = .ok (.aload_n 0, 1) := by decide +kernel
theorem dc_X7_init_213 : decode cX7_init 213 = .ok (.iconst 3, 1) := by decide +kernel
theorem dc_X7_init_214 : decode cX7_init 214 = .ok (.newarray .int, 2) := by decide +kernel
theorem dc_X7_init_216 : decode cX7_init 216 = .ok (.putfield 93, 3) := by decide +kernel
theorem dc_X7_init_219 : decode cX7_init 219 = .ok (.aload_n 0, 1) := by decide +kernel
theorem dc_X7_init_220 : decode cX7_init 220 = .ok (.sipush 1024, 3) := by decide +kernel
theorem dc_X7_init_223 : decode cX7_init 223 = .ok (.newarray .int, 2) := by decide +kernel
theorem dc_X7_init_225 : decode cX7_init 225 = .ok (.putfield 96, 3) := by decide +kernel
theorem dc_X7_init_228 : decode cX7_init 228 = .ok (.aload_n 0, 1) := by decide +kernel
theorem dc_X7_init_229 : decode cX7_init 229 = .ok (.bipush 10, 2) := by decide +kernel
theorem dc_X7_init_231 : decode cX7_init 231 = .ok (.newarray .int, 2) := by decide +kernel
theorem dc_X7_init_233 : decode cX7_init 233 = .ok (.putfield 99, 3) := by decide +kernel
theorem dc_X7_init_236 : decode cX7_init 236 = .ok (.aload_n 0, 1) := by decide +kernel
theorem dc_X7_init_237 : decode cX7_init 237 = .ok (.bipush 10, 2) := by decide +kernel
theorem dc_X7_init_239 : decode cX7_init 239 = .ok (.newarray .int, 2) := by decide +kernel
theorem dc_X7_init_241 : decode cX7_init 241 = .ok (.putfield 102, 3) := by decide +kernel
theorem dc_X7_init_244 : decode cX7_init 244 = .ok (.aload_n 0, 1) := by decide +kernel
theorem dc_X7_init_245 : decode cX7_init 245 = .ok (.invokevirtual 105, 3) := by decide +kernel
theorem dc_X7_init_248 : decode cX7_init 248 = .ok (.return_, 1) := by decide +kernel
theorem dc_X6_init_0 : decode cX6_init 0 = .ok (.aload_n 0, 1) := by decide +kernel
theorem dc_X6_init_1 : decode cX6_init 1 = .ok (.invokespecial 1, 3) := by decide +kernel
theorem dc_X6_init_4 : decode cX6_init 4 = .ok (.aload_n 0, 1) := by decide +kernel
theorem dc_X6_init_5 : decode cX6_init 5 = .ok (.new 7, 3) := by decide +kernel
theorem dc_X6_init_8 : decode cX6_init 8 = .ok (.dup, 1) := by decide +kernel
theorem dc_X6_init_9 : decode cX6_init 9 = .ok (.invokespecial 9, 3) := by decide +kernel
theorem dc_X6_init_12 : decode cX6_init 12 = .ok (.putfield 10, 3) := by decide +kernel
theorem dc_X6_init_15 : decode cX6_init 15 = .ok (.aload_n 0, 1) := by decide +kernel
theorem dc_X6_init_16 : decode cX6_init 16 = .ok (.new 16, 3) := by decide +kernel
theorem dc_X6_init_19 : decode cX6_init 19 = .ok (.dup, 1) := by decide +kernel
theorem dc_X6_init_20 : decode cX6_init 20 = .ok (.invokespecial 18, 3) := by decide +kernel
theorem dc_X6_init_23 : decode cX6_init 23 = .ok (.putfield 19, 3) := by decide +kernel
theorem dc_X6_init_26 : decode cX6_init 26 = .ok (.aload_n 0, 1) := by decide +kernel
theorem dc_X6_init_27 : decode cX6_init 27 = .ok (.new 23, 3) := by decide +kernel
theorem dc_X6_init_30 : decode cX6_init 30 = .ok (.dup, 1) := by decide +kernel
theorem dc_X6_init_31 : decode cX6_init 31 = .ok (.aload_n 0, 1) := by decide +kernel
theorem dc_X6_init_32 : decode cX6_init 32 = .ok (.getfield 10, 3) := by decide +kernel
theorem dc_X6_init_35 : decode cX6_init 35 = .ok (.aload_n 0, 1) := by decide +kernel
theorem dc_X6_init_36 : decode cX6_init 36 = .ok (.getfield 19, 3) := by decide +kernel
theorem dc_X6_init_39 : decode cX6_init 39 = .ok (.invokespecial 25, 3) := by decide +kernel
theorem dc_X6_init_42 : decode cX6_init 42 = .ok (.putfield 28, 3) := by decide +kernel
theorem dc_X6_init_45 : decode cX6_init 45 = .ok (.aload_n 0, 1) := by decide +kernel
theorem dc_X6_init_46 : decode cX6_init 46 = .ok (.new 32, 3) := by decide +kernel
theorem dc_X6_init_49 : decode cX6_init 49 = .ok (.dup, 1) := by decide +kernel
theorem dc_X6_init_50 : decode cX6_init 50 = .ok (.aload_n 0, 1) := by decide +kernel
theorem dc_X6_init_51 : decode cX6_init 51 = .ok (.getfield 10, 3) := by decide +kernel
theorem dc_X6_init_54 : decode cX6_init 54 = .ok (.aload_n 0, 1) := by decide +kernel
theorem dc_X6_init_55 : decode cX6_init 55 = .ok (.getfield 19, 3) := by decide +kernel
theorem dc_X6_init_58 : decode cX6_init 58 = .ok (.aload_n 0, 1) := by decide +kernel
theorem dc_X6_init_59 : decode cX6_init 59 = .ok (.getfield 28, 3) := by decide +kernel
theorem dc_X6_init_62 : decode cX6_init 62 = .ok (.invokespecial 34, 3) := by decide +kernel
theorem dc_X6_init_65 : decode cX6_init 65 = .ok (.putfield 37, 3) := by decide +kernel
theorem dc_X6_init_68 : decode cX6_init 68 = .ok (.aload_n 0, 1) := by decide +kernel
theorem dc_X6_init_69 : decode cX6_init 69 = .ok (.new 41, 3) := by decide +kernel
theorem dc_X6_init_72 : decode cX6_init 72 = .ok (.dup, 1) := by decide +kernel
theorem dc_X6_init_73 : decode cX6_init 73 = .ok (.aload_n 0, 1) := by decide +kernel
theorem dc_X6_init_74 : decode cX6_init 74 = .ok (.getfield 10, 3) := by decide +kernel
theorem dc_X6_init_77 : decode cX6_init 77 = .ok (.invokespecial 43, 3) := by decide +kernel
theorem dc_X6_init_80 : decode cX6_init 80 = .ok (.putfield 46, 3) := by decide +kernel
theorem dc_X6_init_83 : decode cX6_init 83 = .ok (.aload_n 0, 1) := by decide +kernel
theorem dc_X6_init_84 : decode cX6_init 84 = .ok (.new 50, 3) := by decide +kernel
theorem dc_X6_init_87 : decode cX6_init 87 = .ok (.dup, 1) := by decide +kernel
theorem dc_X6_init_88 : decode cX6_init 88 = .ok (.aload_n 0, 1) := by decide +kernel
theorem dc_X6_init_89 : decode cX6_init 89 = .ok (.getfield 19, 3) := by decide +kernel
theorem dc_X6_init_92 : decode cX6_init 92 = .ok (.invokespecial 52, 3) := by decide +kernel
theorem dc_X6_init_95 : decode cX6_init 95 = .ok (.putfield 55, 3) := by decide +kernel
theorem dc_X6_init_98 : decode cX6_init 98 = .ok (.return_, 1) := by decide +kernel
