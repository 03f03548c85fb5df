/-! at: decoding and calls -/
theorem da_0 : decode cX6_at 0 = .ok (.aload_n 0, 1) := by decide +kernel
theorem da_1 : decode cX6_at 1 = .ok (.getfield 28, 3) := by decide +kernel
theorem da_4 : decode cX6_at 4 = .ok (.iload_n 1, 1) := by decide +kernel
theorem da_5 : decode cX6_at 5 = .ok (.invokevirtual 122, 3) := by decide +kernel
theorem da_8 : decode cX6_at 8 = .ok (.ifCond .ne 13, 3) := by decide +kernel
theorem da_11 : decode cX6_at 11 = .ok (.new 128, 3) := by decide +kernel
theorem da_14 : decode cX6_at 14 = .ok (.dup, 1) := by decide +kernel
theorem da_15 : decode cX6_at 15 = .ok (.ldc 130, 2) := by decide +kernel
theorem da_17 : decode cX6_at 17 = .ok (.invokespecial 132, 3) := by decide +kernel
theorem da_20 : decode cX6_at 20 = .ok (.athrow, 1) := by decide +kernel
theorem da_21 : decode cX6_at 21 = .ok (.iload_n 2, 1) := by decide +kernel
theorem da_22 : decode cX6_at 22 = .ok (.iconst 0, 1) := by decide +kernel
theorem da_23 : decode cX6_at 23 = .ok (.iconst 1, 1) := by decide +kernel
theorem da_24 : decode cX6_at 24 = .ok (.invokestatic 59, 3) := by decide +kernel
theorem da_27 : decode cX6_at 27 = .ok (.ifCond .ne 13, 3) := by decide +kernel
theorem da_30 : decode cX6_at 30 = .ok (.new 128, 3) := by decide +kernel
theorem da_33 : decode cX6_at 33 = .ok (.dup, 1) := by decide +kernel
theorem da_34 : decode cX6_at 34 = .ok (.ldc 135, 2) := by decide +kernel
theorem da_36 : decode cX6_at 36 = .ok (.invokespecial 132, 3) := by decide +kernel
theorem da_39 : decode cX6_at 39 = .ok (.athrow, 1) := by decide +kernel
theorem da_40 : decode cX6_at 40 = .ok (.iload_n 2, 1) := by decide +kernel
theorem da_41 : decode cX6_at 41 = .ok (.ifCond .ne 14, 3) := by decide +kernel
theorem da_44 : decode cX6_at 44 = .ok (.aload_n 0, 1) := by decide +kernel
theorem da_45 : decode cX6_at 45 = .ok (.getfield 28, 3) := by decide +kernel
theorem da_48 : decode cX6_at 48 = .ok (.iload_n 1, 1) := by decide +kernel
theorem da_49 : decode cX6_at 49 = .ok (.invokevirtual 137, 3) := by decide +kernel
theorem da_52 : decode cX6_at 52 = .ok (.goto 11, 3) := by decide +kernel
theorem da_55 : decode cX6_at 55 = .ok (.aload_n 0, 1) := by decide +kernel
theorem da_56 : decode cX6_at 56 = .ok (.getfield 28, 3) := by decide +kernel
theorem da_59 : decode cX6_at 59 = .ok (.iload_n 1, 1) := by decide +kernel
theorem da_60 : decode cX6_at 60 = .ok (.invokevirtual 140, 3) := by decide +kernel
theorem da_63 : decode cX6_at 63 = .ok (.ireturn, 1) := by decide +kernel
theorem db_0 : decode cL_at 0 = .ok (.aload_n 3, 1) := by decide +kernel
theorem db_1 : decode cL_at 1 = .ok (.iconst 0, 1) := by decide +kernel
theorem db_2 : decode cL_at 2 = .ok (.aload_n 0, 1) := by decide +kernel
theorem db_3 : decode cL_at 3 = .ok (.iload_n 1, 1) := by decide +kernel
theorem db_4 : decode cL_at 4 = .ok (.iload_n 2, 1) := by decide +kernel
theorem db_5 : decode cL_at 5 = .ok (.invokevirtual 7, 3) := by decide +kernel
theorem db_8 : decode cL_at 8 = .ok (.i2l, 1) := by decide +kernel
theorem db_9 : decode cL_at 9 = .ok (.lastore, 1) := by decide +kernel
theorem db_10 : decode cL_at 10 = .ok (.goto 7, 3) := by decide +kernel
theorem db_13 : decode cL_at 13 = .ok (.astore 4, 2) := by decide +kernel
theorem db_15 : decode cL_at 15 = .ok (.iconst 1, 1) := by decide +kernel
theorem db_16 : decode cL_at 16 = .ok (.ireturn, 1) := by decide +kernel
theorem db_17 : decode cL_at 17 = .ok (.iconst 0, 1) := by decide +kernel
theorem db_18 : decode cL_at 18 = .ok (.ireturn, 1) := by decide +kernel
theorem we_402 : (.methodLink "SeasonOfHours" 122 yX5_hasSlot : Cond) ∈ lw_Ts := am_mem 402 (by decide +kernel) rfl
theorem we_403 : (.instanceMethod yX5_hasSlot : Cond) ∈ lw_Ts := am_mem 403 (by decide +kernel) rfl
theorem we_404 : (.selects "SeasonOfHours$Programme" yX5_hasSlot yX5_hasSlot : Cond) ∈ lw_Ts := am_mem 404 (by decide +kernel) rfl
theorem ta_5 : am_okc gm_mi gm_mt lw_Ts lw_Ns cX6_at RX6 5 33 2 := ⟨122, cf_33.1, cf_33.2.1, cf_33.2.2.1, cf_33.2.2.2, Or.inr ⟨5, 1, TX5, 7, rfl, rfl, rfl, da_5, we_403, we_404, we_402, by decide +kernel⟩⟩
theorem we_311 : (.methodLink "SeasonOfHours" 59 yX6_isWithin : Cond) ∈ lw_Ts := am_mem 311 (by decide +kernel) rfl
theorem we_312 : (.static yX6_isWithin : Cond) ∈ lw_Ts := am_mem 312 (by decide +kernel) rfl
theorem ta_24 : am_okc gm_mi gm_mt lw_Ts lw_Ns cX6_at RX6 24 66 3 := ⟨59, cf_66.1, cf_66.2.1, cf_66.2.2.1, cf_66.2.2.2, Or.inl ⟨rfl, da_24, we_312, by decide +kernel, Or.inl we_311⟩⟩
theorem we_697 : (.methodLink "SeasonOfHours" 137 yX5_artistAt : Cond) ∈ lw_Ts := am_mem 697 (by decide +kernel) rfl
theorem we_391 : (.instanceMethod yX5_artistAt : Cond) ∈ lw_Ts := am_mem 391 (by decide +kernel) rfl
theorem we_392 : (.selects "SeasonOfHours$Programme" yX5_artistAt yX5_artistAt : Cond) ∈ lw_Ts := am_mem 392 (by decide +kernel) rfl
theorem ta_49 : am_okc gm_mi gm_mt lw_Ts lw_Ns cX6_at RX6 49 35 2 := ⟨137, cf_35.1, cf_35.2.1, cf_35.2.2.1, cf_35.2.2.2, Or.inr ⟨5, 1, TX5, 7, rfl, rfl, rfl, da_49, we_391, we_392, we_697, by decide +kernel⟩⟩
theorem we_698 : (.methodLink "SeasonOfHours" 140 yX5_modeAt : Cond) ∈ lw_Ts := am_mem 698 (by decide +kernel) rfl
theorem we_395 : (.instanceMethod yX5_modeAt : Cond) ∈ lw_Ts := am_mem 395 (by decide +kernel) rfl
theorem we_396 : (.selects "SeasonOfHours$Programme" yX5_modeAt yX5_modeAt : Cond) ∈ lw_Ts := am_mem 396 (by decide +kernel) rfl
theorem ta_60 : am_okc gm_mi gm_mt lw_Ts lw_Ns cX6_at RX6 60 36 2 := ⟨140, cf_36.1, cf_36.2.1, cf_36.2.2.1, cf_36.2.2.2, Or.inr ⟨5, 1, TX5, 7, rfl, rfl, rfl, da_60, we_395, we_396, we_698, by decide +kernel⟩⟩
theorem we_290 : (.fieldLink "SeasonOfHours" 28 "SeasonOfHours" "programme" "LSeasonOfHours$Programme;" : Cond) ∈ lw_Ts := am_mem 290 (by decide +kernel) rfl
abbrev nseB : ByteArray := prog_17_method_4_code
theorem dn_0 : decode nseB 0 = .ok (.aload_n 0, 1) := by decide +kernel
theorem dn_1 : decode nseB 1 = .ok (.aload_n 1, 1) := by decide +kernel
theorem dn_2 : decode nseB 2 = .ok (.invokespecial 13, 3) := by decide +kernel
theorem dn_5 : decode nseB 5 = .ok (.return_, 1) := by decide +kernel
abbrev nseL : List Cond := (Bundle.ownAtomsX RX6 132 "java/util/NoSuchElementException" 13 nseB ["java/lang/RuntimeException", "java/lang/Exception"]).filter vx_no
theorem nse_good : ∀ w ∈ nseL.filter goodWord, w ∈ lw_Ts := fun w hw => List.mem_filter.mpr ⟨(show ∀ w ∈ nseL.filter goodWord, w ∈ lw_tbl by decide +kernel) w hw, (List.mem_filter.mp hw).2⟩
abbrev nseD : List Cond := [Cond.castable "java/util/NoSuchElementException" "java/util/NoSuchElementException", Cond.declares (Bundle.initS "java/lang/RuntimeException"), Cond.declares (Bundle.initS "java/lang/Exception"), Cond.declares (Bundle.initS "java/lang/Throwable")]
theorem nse_bad : ∀ w ∈ nseL.filter (fun w => !goodWord w), w ∈ nseD := by decide +kernel
theorem nse_in1 : Cond.instanceMethod (Bundle.initS "java/util/NoSuchElementException") ∈ Bundle.ownAtomsX RX6 132 "java/util/NoSuchElementException" 13 nseB ["java/lang/RuntimeException", "java/lang/Exception"] := by decide +kernel
theorem nse_in2 : Cond.code (Bundle.initS "java/util/NoSuchElementException") nseB 2 none ∈ Bundle.ownAtomsX RX6 132 "java/util/NoSuchElementException" 13 nseB ["java/lang/RuntimeException", "java/lang/Exception"] := by decide +kernel
theorem nse_ot : ∀ w ∈ Cond.classLink RX6 128 "java/util/NoSuchElementException" :: Cond.initialized "java/util/NoSuchElementException" :: nseL, vx_ot w = true := by decide +kernel
theorem we_c1 : (.classLink "SeasonOfHours" 128 "java/util/NoSuchElementException" : Cond) ∈ lw_Ts := am_mem 630 (by decide +kernel) rfl
theorem we_c2 : (.classLink "SeasonOfHoursLaw" 13 "java/util/NoSuchElementException" : Cond) ∈ lw_Ts := am_mem 625 (by decide +kernel) rfl
theorem we_c3 : (.initialized "java/util/NoSuchElementException" : Cond) ∈ lw_Ts := am_mem 57 (by decide +kernel) rfl
theorem we_a1 : (.code yX6_at cX6_at 3 (some .int) : Cond) ∈ lw_Ts := am_mem 629 (by decide +kernel) rfl
theorem we_a2 : (.instanceMethod yX6_at : Cond) ∈ lw_Ts := am_mem 627 (by decide +kernel) rfl
theorem we_a3 : (.selects "SeasonOfHours" yX6_at yX6_at : Cond) ∈ lw_Ts := am_mem 628 (by decide +kernel) rfl
theorem we_a4 : (.methodLink "SeasonOfHoursLaw" 7 yX6_at : Cond) ∈ lw_Ts := am_mem 626 (by decide +kernel) rfl
theorem we_a5 : (.initialized "SeasonOfHours" : Cond) ∈ lw_Ts := am_mem 44 (by decide +kernel) rfl
theorem we_b1 : (.codeWith yL_at cL_at 5 (some .int) [(0, 10, 13, 13)] : Cond) ∈ lw_Ts := am_mem 624 (by decide +kernel) rfl
theorem we_b2 : (.methodLink "SeasonOfHoursLaw" 64 yL_at : Cond) ∈ lw_Ts := am_mem 622 (by decide +kernel) rfl
theorem we_b3 : (.static yL_at : Cond) ∈ lw_Ts := am_mem 623 (by decide +kernel) rfl
theorem we_b4 : (.initialized "SeasonOfHoursLaw" : Cond) ∈ lw_Ts := am_mem 43 (by decide +kernel) rfl
