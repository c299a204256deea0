theorem kw_K : ∀ w ∈ u_ws N_K T_K 7, w ∈ zTs := by
  intro w hw
  obtain ⟨j, hj, rfl⟩ := List.mem_map.mp hw
  have hj := List.mem_range.mp hj
  rcases (show j = 0 ∨ j = 1 ∨ j = 2 ∨ j = 3 ∨ j = 4 ∨ j = 5 ∨ j = 6 by omega) with rfl | rfl | rfl | rfl | rfl | rfl | rfl
  · exact zTs_at 60 (by decide +kernel) (by decide +kernel)
  · exact zTs_at 62 (by decide +kernel) (by decide +kernel)
  · exact zTs_at 64 (by decide +kernel) (by decide +kernel)
  · exact zTs_at 66 (by decide +kernel) (by decide +kernel)
  · exact zTs_at 68 (by decide +kernel) (by decide +kernel)
  · exact zTs_at 70 (by decide +kernel) (by decide +kernel)
  · exact zTs_at 72 (by decide +kernel) (by decide +kernel)
theorem kt_K : ∀ j, j < 7 → parseFieldDescriptor (T_K j).2.2.1 = some (t_K j) := by decide +kernel
theorem kp_K : zPok N_K T_K 7 t_K := ⟨kt_K, by decide +kernel⟩
theorem kw_R : ∀ w ∈ u_ws N_R T_R 2, w ∈ zTs := by
  intro w hw
  obtain ⟨j, hj, rfl⟩ := List.mem_map.mp hw
  have hj := List.mem_range.mp hj
  rcases (show j = 0 ∨ j = 1 by omega) with rfl | rfl
  · exact zTs_at 84 (by decide +kernel) (by decide +kernel)
  · exact zTs_at 86 (by decide +kernel) (by decide +kernel)
theorem kt_R : ∀ j, j < 2 → parseFieldDescriptor (T_R j).2.2.1 = some (t_R j) := by decide +kernel
theorem kp_R : zPok N_R T_R 2 t_R := ⟨kt_R, by decide +kernel⟩
theorem kw_D : ∀ w ∈ u_ws N_D T_D 7, w ∈ zTs := by
  intro w hw
  obtain ⟨j, hj, rfl⟩ := List.mem_map.mp hw
  have hj := List.mem_range.mp hj
  rcases (show j = 0 ∨ j = 1 ∨ j = 2 ∨ j = 3 ∨ j = 4 ∨ j = 5 ∨ j = 6 by omega) with rfl | rfl | rfl | rfl | rfl | rfl | rfl
  · exact zTs_at 96 (by decide +kernel) (by decide +kernel)
  · exact zTs_at 98 (by decide +kernel) (by decide +kernel)
  · exact zTs_at 100 (by decide +kernel) (by decide +kernel)
  · exact zTs_at 102 (by decide +kernel) (by decide +kernel)
  · exact zTs_at 104 (by decide +kernel) (by decide +kernel)
  · exact zTs_at 106 (by decide +kernel) (by decide +kernel)
  · exact zTs_at 108 (by decide +kernel) (by decide +kernel)
theorem kt_D : ∀ j, j < 7 → parseFieldDescriptor (T_D j).2.2.1 = some (t_D j) := by decide +kernel
theorem kp_D : zPok N_D T_D 7 t_D := ⟨kt_D, by decide +kernel⟩
theorem kw_M : ∀ w ∈ u_ws N_M T_M 11, w ∈ zTs := by
  intro w hw
  obtain ⟨j, hj, rfl⟩ := List.mem_map.mp hw
  have hj := List.mem_range.mp hj
  rcases (show j = 0 ∨ j = 1 ∨ j = 2 ∨ j = 3 ∨ j = 4 ∨ j = 5 ∨ j = 6 ∨ j = 7 ∨ j = 8 ∨ j = 9 ∨ j = 10 by omega) with rfl | rfl | rfl | rfl | rfl | rfl | rfl | rfl | rfl | rfl | rfl
  · exact zTs_at 340 (by decide +kernel) (by decide +kernel)
  · exact zTs_at 342 (by decide +kernel) (by decide +kernel)
  · exact zTs_at 344 (by decide +kernel) (by decide +kernel)
  · exact zTs_at 346 (by decide +kernel) (by decide +kernel)
  · exact zTs_at 348 (by decide +kernel) (by decide +kernel)
  · exact zTs_at 350 (by decide +kernel) (by decide +kernel)
  · exact zTs_at 352 (by decide +kernel) (by decide +kernel)
  · exact zTs_at 354 (by decide +kernel) (by decide +kernel)
  · exact zTs_at 356 (by decide +kernel) (by decide +kernel)
  · exact zTs_at 358 (by decide +kernel) (by decide +kernel)
  · exact zTs_at 360 (by decide +kernel) (by decide +kernel)
theorem kt_M : ∀ j, j < 11 → parseFieldDescriptor (T_M j).2.2.1 = some (t_M j) := by decide +kernel
theorem kp_M : zPok N_M T_M 11 t_M := ⟨kt_M, by decide +kernel⟩
theorem kf_K_9 : zFok N_K 9 0 0 N_K T_K 7 := ⟨rfl, by decide, kw_K, zTs_at 53 (by decide +kernel) (by decide +kernel)⟩
theorem kf_K_15 : zFok N_K 15 0 1 N_K T_K 7 := ⟨rfl, by decide, kw_K, zTs_at 54 (by decide +kernel) (by decide +kernel)⟩
theorem kf_K_18 : zFok N_K 18 0 2 N_K T_K 7 := ⟨rfl, by decide, kw_K, zTs_at 55 (by decide +kernel) (by decide +kernel)⟩
theorem kf_K_21 : zFok N_K 21 0 3 N_K T_K 7 := ⟨rfl, by decide, kw_K, zTs_at 56 (by decide +kernel) (by decide +kernel)⟩
theorem kf_K_25 : zFok N_K 25 0 4 N_K T_K 7 := ⟨rfl, by decide, kw_K, zTs_at 57 (by decide +kernel) (by decide +kernel)⟩
theorem kf_K_29 : zFok N_K 29 0 5 N_K T_K 7 := ⟨rfl, by decide, kw_K, zTs_at 58 (by decide +kernel) (by decide +kernel)⟩
theorem kf_K_32 : zFok N_K 32 0 6 N_K T_K 7 := ⟨rfl, by decide, kw_K, zTs_at 59 (by decide +kernel) (by decide +kernel)⟩
theorem kf_R_9 : zFok N_R 9 1 0 N_R T_R 2 := ⟨rfl, by decide, kw_R, zTs_at 82 (by decide +kernel) (by decide +kernel)⟩
theorem kf_R_15 : zFok N_R 15 1 1 N_R T_R 2 := ⟨rfl, by decide, kw_R, zTs_at 83 (by decide +kernel) (by decide +kernel)⟩
theorem kf_D_36 : zFok N_D 36 2 0 N_D T_D 7 := ⟨rfl, by decide, kw_D, zTs_at 89 (by decide +kernel) (by decide +kernel)⟩
theorem kf_D_12 : zFok N_D 12 2 1 N_D T_D 7 := ⟨rfl, by decide, kw_D, zTs_at 90 (by decide +kernel) (by decide +kernel)⟩
theorem kf_D_16 : zFok N_D 16 2 2 N_D T_D 7 := ⟨rfl, by decide, kw_D, zTs_at 91 (by decide +kernel) (by decide +kernel)⟩
theorem kf_D_19 : zFok N_D 19 2 3 N_D T_D 7 := ⟨rfl, by decide, kw_D, zTs_at 92 (by decide +kernel) (by decide +kernel)⟩
theorem kf_D_25 : zFok N_D 25 2 4 N_D T_D 7 := ⟨rfl, by decide, kw_D, zTs_at 93 (by decide +kernel) (by decide +kernel)⟩
theorem kf_D_29 : zFok N_D 29 2 5 N_D T_D 7 := ⟨rfl, by decide, kw_D, zTs_at 94 (by decide +kernel) (by decide +kernel)⟩
theorem kf_D_32 : zFok N_D 32 2 6 N_D T_D 7 := ⟨rfl, by decide, kw_D, zTs_at 95 (by decide +kernel) (by decide +kernel)⟩
theorem kf_M_28 : zFok N_M 28 3 0 N_M T_M 11 := ⟨rfl, by decide, kw_M, zTs_at 329 (by decide +kernel) (by decide +kernel)⟩
theorem kf_M_24 : zFok N_M 24 3 1 N_M T_M 11 := ⟨rfl, by decide, kw_M, zTs_at 330 (by decide +kernel) (by decide +kernel)⟩
theorem kf_M_31 : zFok N_M 31 3 2 N_M T_M 11 := ⟨rfl, by decide, kw_M, zTs_at 331 (by decide +kernel) (by decide +kernel)⟩
theorem kf_M_9 : zFok N_M 9 3 3 N_M T_M 11 := ⟨rfl, by decide, kw_M, zTs_at 332 (by decide +kernel) (by decide +kernel)⟩
theorem kf_M_65 : zFok N_M 65 3 4 N_M T_M 11 := ⟨rfl, by decide, kw_M, zTs_at 333 (by decide +kernel) (by decide +kernel)⟩
theorem kf_M_13 : zFok N_M 13 3 5 N_M T_M 11 := ⟨rfl, by decide, kw_M, zTs_at 334 (by decide +kernel) (by decide +kernel)⟩
theorem kf_M_17 : zFok N_M 17 3 6 N_M T_M 11 := ⟨rfl, by decide, kw_M, zTs_at 335 (by decide +kernel) (by decide +kernel)⟩
theorem kf_M_76 : zFok N_M 76 3 7 N_M T_M 11 := ⟨rfl, by decide, kw_M, zTs_at 336 (by decide +kernel) (by decide +kernel)⟩
theorem kf_M_79 : zFok N_M 79 3 8 N_M T_M 11 := ⟨rfl, by decide, kw_M, zTs_at 337 (by decide +kernel) (by decide +kernel)⟩
theorem kf_M_21 : zFok N_M 21 3 9 N_M T_M 11 := ⟨rfl, by decide, kw_M, zTs_at 338 (by decide +kernel) (by decide +kernel)⟩
theorem kf_M_86 : zFok N_M 86 3 10 N_M T_M 11 := ⟨rfl, by decide, kw_M, zTs_at 339 (by decide +kernel) (by decide +kernel)⟩
theorem kk_K_43 : Cond.constantLong N_K 43 (1000003) ∈ zTs := zTs_at 123 (by decide +kernel) (by decide +kernel)
theorem kk_K_45 : Cond.constantLong N_K 45 (101) ∈ zTs := zTs_at 124 (by decide +kernel) (by decide +kernel)
theorem kk_K_102 : Cond.constantLong N_K 102 (6364136223846793005) ∈ zTs := zTs_at 145 (by decide +kernel) (by decide +kernel)
theorem kk_K_104 : Cond.constantLong N_K 104 (1442695040888963407) ∈ zTs := zTs_at 146 (by decide +kernel) (by decide +kernel)
theorem kk_J_265 : Cond.constant N_J 265 (1431655765) ∈ zTs := zTs_at 297 (by decide +kernel) (by decide +kernel)
theorem kk_J_266 : Cond.constant N_J 266 (858993459) ∈ zTs := zTs_at 298 (by decide +kernel) (by decide +kernel)
theorem kk_J_267 : Cond.constant N_J 267 (252645135) ∈ zTs := zTs_at 299 (by decide +kernel) (by decide +kernel)
theorem kk_M_53 : Cond.constantLong N_M 53 (1000003) ∈ zTs := zTs_at 378 (by decide +kernel) (by decide +kernel)
theorem kk_M_55 : Cond.constantLong N_M 55 (101) ∈ zTs := zTs_at 379 (by decide +kernel) (by decide +kernel)
theorem kk_M_34 : Cond.constantLong N_M 34 (6364136223846793005) ∈ zTs := zTs_at 395 (by decide +kernel) (by decide +kernel)
theorem kk_M_36 : Cond.constantLong N_M 36 (1442695040888963407) ∈ zTs := zTs_at 396 (by decide +kernel) (by decide +kernel)
theorem kk_L_67 : Cond.constantLong N_L 67 (4294967295) ∈ zTs := zTs_at 468 (by decide +kernel) (by decide +kernel)
theorem kb_D_init : zBok y_D_init b_D_init 3 (none) 1 := ⟨zTs_at 43 rfl rfl, zTs_at 34 (by decide +kernel) (by decide +kernel), by decide +kernel, by decide +kernel, by decide +kernel⟩
theorem ko_c : Cond.code objectInit ⟨#[0xb1]⟩ 1 none ∈ zTs := zTs_at 46 rfl rfl
theorem ko_i : Cond.instanceMethod objectInit ∈ zTs := zTs_at 45 (by decide +kernel) (by decide +kernel)
theorem kb_K_init : zBok y_K_init b_K_init 1 (none) 0 := ⟨zTs_at 51 rfl rfl, zTs_at 35 (by decide +kernel) (by decide +kernel), by decide +kernel, by decide +kernel, by decide +kernel⟩
theorem kb_R_init : zBok y_R_init b_R_init 1 (none) 0 := ⟨zTs_at 80 rfl rfl, zTs_at 36 (by decide +kernel) (by decide +kernel), by decide +kernel, by decide +kernel, by decide +kernel⟩
theorem kb_D_draw : zBok y_D_draw b_D_draw 3 (some .int) 2 := ⟨zTs_at 114 rfl rfl, zTs_at 34 (by decide +kernel) (by decide +kernel), by decide +kernel, by decide +kernel, by decide +kernel⟩
theorem kb_D_canBeDrawn : zBok y_D_canBeDrawn b_D_canBeDrawn 2 (some .boolean) 2 := ⟨zTs_at 117 rfl rfl, zTs_at 34 (by decide +kernel) (by decide +kernel), by decide +kernel, by decide +kernel, by decide +kernel⟩
theorem kb_K_fill : zBok y_K_fill b_K_fill 6 (none) 3 := ⟨zTs_at 121 rfl rfl, zTs_at 35 (by decide +kernel) (by decide +kernel), by decide +kernel, by decide +kernel, by decide +kernel⟩
theorem kb_K_fillPart : zBok y_K_fillPart b_K_fillPart 2 (none) 1 := ⟨zTs_at 128 rfl rfl, zTs_at 35 (by decide +kernel) (by decide +kernel), by decide +kernel, by decide +kernel, by decide +kernel⟩
theorem kb_K_fillRecord : zBok y_K_fillRecord b_K_fillRecord 6 (none) 1 := ⟨zTs_at 132 rfl rfl, zTs_at 35 (by decide +kernel) (by decide +kernel), by decide +kernel, by decide +kernel, by decide +kernel⟩
theorem kb_K_startTitle : zBok y_K_startTitle b_K_startTitle 2 (none) 1 := ⟨zTs_at 136 rfl rfl, zTs_at 35 (by decide +kernel) (by decide +kernel), by decide +kernel, by decide +kernel, by decide +kernel⟩
theorem kb_K_has : zBok y_K_has b_K_has 2 (some .boolean) 1 := ⟨zTs_at 140 rfl rfl, zTs_at 35 (by decide +kernel) (by decide +kernel), by decide +kernel, by decide +kernel, by decide +kernel⟩
theorem kb_K_next : zBok y_K_next b_K_next 3 (some .int) 1 := ⟨zTs_at 144 rfl rfl, zTs_at 35 (by decide +kernel) (by decide +kernel), by decide +kernel, by decide +kernel, by decide +kernel⟩
theorem kb_K_put : zBok y_K_put b_K_put 5 (none) 4 := ⟨zTs_at 150 rfl rfl, zTs_at 35 (by decide +kernel) (by decide +kernel), by decide +kernel, by decide +kernel, by decide +kernel⟩
theorem kb_K_addSign : zBok y_K_addSign b_K_addSign 2 (none) 1 := ⟨zTs_at 154 rfl rfl, zTs_at 35 (by decide +kernel) (by decide +kernel), by decide +kernel, by decide +kernel, by decide +kernel⟩
theorem kb_K_number : zBok y_K_number b_K_number 3 (some .int) 2 := ⟨zTs_at 158 rfl rfl, zTs_at 35 (by decide +kernel) (by decide +kernel), by decide +kernel, by decide +kernel, by decide +kernel⟩
theorem kb_K_repeatTitle : zBok y_K_repeatTitle b_K_repeatTitle 4 (none) 1 := ⟨zTs_at 162 rfl rfl, zTs_at 35 (by decide +kernel) (by decide +kernel), by decide +kernel, by decide +kernel, by decide +kernel⟩
theorem kb_K_sign : zBok y_K_sign b_K_sign 2 (some .int) 1 := ⟨zTs_at 166 rfl rfl, zTs_at 35 (by decide +kernel) (by decide +kernel), by decide +kernel, by decide +kernel, by decide +kernel⟩
theorem kb_K_fillFile : zBok y_K_fillFile b_K_fillFile 2 (none) 1 := ⟨zTs_at 170 rfl rfl, zTs_at 35 (by decide +kernel) (by decide +kernel), by decide +kernel, by decide +kernel, by decide +kernel⟩
theorem kb_K_fillFileWithWinner : zBok y_K_fillFileWithWinner b_K_fillFileWithWinner 8 (none) 1 := ⟨zTs_at 174 rfl rfl, zTs_at 35 (by decide +kernel) (by decide +kernel), by decide +kernel, by decide +kernel, by decide +kernel⟩
theorem kb_K_fillFileWithoutWinner : zBok y_K_fillFileWithoutWinner b_K_fillFileWithoutWinner 6 (none) 1 := ⟨zTs_at 178 rfl rfl, zTs_at 35 (by decide +kernel) (by decide +kernel), by decide +kernel, by decide +kernel, by decide +kernel⟩
theorem kb_K_fillPattern : zBok y_K_fillPattern b_K_fillPattern 5 (none) 1 := ⟨zTs_at 182 rfl rfl, zTs_at 35 (by decide +kernel) (by decide +kernel), by decide +kernel, by decide +kernel, by decide +kernel⟩
theorem kb_K_fillLine : zBok y_K_fillLine b_K_fillLine 5 (none) 1 := ⟨zTs_at 186 rfl rfl, zTs_at 35 (by decide +kernel) (by decide +kernel), by decide +kernel, by decide +kernel, by decide +kernel⟩
theorem kb_K_fillReader : zBok y_K_fillReader b_K_fillReader 4 (none) 1 := ⟨zTs_at 190 rfl rfl, zTs_at 35 (by decide +kernel) (by decide +kernel), by decide +kernel, by decide +kernel, by decide +kernel⟩
theorem kb_K_fillAct : zBok y_K_fillAct b_K_fillAct 4 (none) 1 := ⟨zTs_at 194 rfl rfl, zTs_at 35 (by decide +kernel) (by decide +kernel), by decide +kernel, by decide +kernel, by decide +kernel⟩
theorem kb_K_timeBefore : zBok y_K_timeBefore b_K_timeBefore 2 (some .int) 1 := ⟨zTs_at 198 rfl rfl, zTs_at 35 (by decide +kernel) (by decide +kernel), by decide +kernel, by decide +kernel, by decide +kernel⟩
theorem kb_R_clear : zBok y_R_clear b_R_clear 1 (none) 0 := ⟨zTs_at 202 rfl rfl, zTs_at 36 (by decide +kernel) (by decide +kernel), by decide +kernel, by decide +kernel, by decide +kernel⟩
theorem kb_K_allParts : zBok y_K_allParts b_K_allParts 1 (some .int) 0 := ⟨zTs_at 206 rfl rfl, zTs_at 35 (by decide +kernel) (by decide +kernel), by decide +kernel, by decide +kernel, by decide +kernel⟩
theorem kb_K_count : zBok y_K_count b_K_count 1 (some .int) 0 := ⟨zTs_at 210 rfl rfl, zTs_at 35 (by decide +kernel) (by decide +kernel), by decide +kernel, by decide +kernel, by decide +kernel⟩
theorem kb_D_part : zBok y_D_part b_D_part 3 (some .int) 2 := ⟨zTs_at 214 rfl rfl, zTs_at 34 (by decide +kernel) (by decide +kernel), by decide +kernel, by decide +kernel, by decide +kernel⟩
theorem kb_D_letter : zBok y_D_letter b_D_letter 2 (some .int) 1 := ⟨zTs_at 219 rfl rfl, zTs_at 34 (by decide +kernel) (by decide +kernel), by decide +kernel, by decide +kernel, by decide +kernel⟩
theorem kb_D_majority : zBok y_D_majority b_D_majority 2 (some .int) 1 := ⟨zTs_at 224 rfl rfl, zTs_at 34 (by decide +kernel) (by decide +kernel), by decide +kernel, by decide +kernel, by decide +kernel⟩
theorem kb_K_winner : zBok y_K_winner b_K_winner 3 (some .int) 1 := ⟨zTs_at 228 rfl rfl, zTs_at 35 (by decide +kernel) (by decide +kernel), by decide +kernel, by decide +kernel, by decide +kernel⟩
theorem kb_K_votes : zBok y_K_votes b_K_votes 8 (some .int) 2 := ⟨zTs_at 232 rfl rfl, zTs_at 35 (by decide +kernel) (by decide +kernel), by decide +kernel, by decide +kernel, by decide +kernel⟩
theorem kb_D_ends : zBok y_D_ends b_D_ends 2 (some .boolean) 1 := ⟨zTs_at 236 rfl rfl, zTs_at 34 (by decide +kernel) (by decide +kernel), by decide +kernel, by decide +kernel, by decide +kernel⟩
theorem kb_K_isPattern : zBok y_K_isPattern b_K_isPattern 2 (some .boolean) 1 := ⟨zTs_at 240 rfl rfl, zTs_at 35 (by decide +kernel) (by decide +kernel), by decide +kernel, by decide +kernel, by decide +kernel⟩
theorem kb_K_lastDay : zBok y_K_lastDay b_K_lastDay 2 (some .int) 1 := ⟨zTs_at 244 rfl rfl, zTs_at 35 (by decide +kernel) (by decide +kernel), by decide +kernel, by decide +kernel, by decide +kernel⟩
theorem kb_D_planted : zBok y_D_planted b_D_planted 4 (some .int) 1 := ⟨zTs_at 248 rfl rfl, zTs_at 34 (by decide +kernel) (by decide +kernel), by decide +kernel, by decide +kernel, by decide +kernel⟩
theorem kb_K_shows : zBok y_K_shows b_K_shows 3 (some .boolean) 2 := ⟨zTs_at 252 rfl rfl, zTs_at 35 (by decide +kernel) (by decide +kernel), by decide +kernel, by decide +kernel, by decide +kernel⟩
theorem kb_D_verdict : zBok y_D_verdict b_D_verdict 4 (none) 2 := ⟨zTs_at 259 rfl rfl, zTs_at 34 (by decide +kernel) (by decide +kernel), by decide +kernel, by decide +kernel, by decide +kernel⟩
theorem kb_R_add : zBok y_R_add b_R_add 2 (none) 1 := ⟨zTs_at 263 rfl rfl, zTs_at 36 (by decide +kernel) (by decide +kernel), by decide +kernel, by decide +kernel, by decide +kernel⟩
theorem kb_D_shorter : zBok y_D_shorter b_D_shorter 1 (some .int) 0 := ⟨zTs_at 267 rfl rfl, zTs_at 34 (by decide +kernel) (by decide +kernel), by decide +kernel, by decide +kernel, by decide +kernel⟩
theorem kb_D_smallerCase : zBok y_D_smallerCase b_D_smallerCase 5 (some .int) 1 := ⟨zTs_at 271 rfl rfl, zTs_at 34 (by decide +kernel) (by decide +kernel), by decide +kernel, by decide +kernel, by decide +kernel⟩
theorem kb_D_staysFor : zBok y_D_staysFor b_D_staysFor 2 (some .boolean) 1 := ⟨zTs_at 275 rfl rfl, zTs_at 34 (by decide +kernel) (by decide +kernel), by decide +kernel, by decide +kernel, by decide +kernel⟩
theorem kb_R_oneIsWithin : zBok y_R_oneIsWithin b_R_oneIsWithin 3 (some .boolean) 1 := ⟨zTs_at 279 rfl rfl, zTs_at 36 (by decide +kernel) (by decide +kernel), by decide +kernel, by decide +kernel, by decide +kernel⟩
theorem kb_R_oneIsTornBy : zBok y_R_oneIsTornBy b_R_oneIsTornBy 4 (some .boolean) 1 := ⟨zTs_at 283 rfl rfl, zTs_at 36 (by decide +kernel) (by decide +kernel), by decide +kernel, by decide +kernel, by decide +kernel⟩
theorem kb_D_afterOneGoing : zBok y_D_afterOneGoing b_D_afterOneGoing 4 (some .int) 1 := ⟨zTs_at 287 rfl rfl, zTs_at 34 (by decide +kernel) (by decide +kernel), by decide +kernel, by decide +kernel, by decide +kernel⟩
theorem kb_D_isIn : zBok y_D_isIn b_D_isIn 2 (some .boolean) 2 := ⟨zTs_at 290 rfl rfl, zTs_at 34 (by decide +kernel) (by decide +kernel), by decide +kernel, by decide +kernel, by decide +kernel⟩
theorem kb_D_without : zBok y_D_without b_D_without 2 (some .int) 2 := ⟨zTs_at 293 rfl rfl, zTs_at 34 (by decide +kernel) (by decide +kernel), by decide +kernel, by decide +kernel, by decide +kernel⟩
theorem kb_J_bitCount : zBok y_J_bitCount b_J_bitCount 1 (some .int) 1 := ⟨zTs_at 296 rfl rfl, zTs_at 38 (by decide +kernel) (by decide +kernel), by decide +kernel, by decide +kernel, by decide +kernel⟩
theorem kb_D_left : zBok y_D_left b_D_left 4 (some .int) 1 := ⟨zTs_at 303 rfl rfl, zTs_at 34 (by decide +kernel) (by decide +kernel), by decide +kernel, by decide +kernel, by decide +kernel⟩
theorem kb_D_minimal : zBok y_D_minimal b_D_minimal 2 (some .boolean) 0 := ⟨zTs_at 307 rfl rfl, zTs_at 34 (by decide +kernel) (by decide +kernel), by decide +kernel, by decide +kernel, by decide +kernel⟩
theorem kb_D_same : zBok y_D_same b_D_same 5 (some .boolean) 3 := ⟨zTs_at 311 rfl rfl, zTs_at 34 (by decide +kernel) (by decide +kernel), by decide +kernel, by decide +kernel, by decide +kernel⟩
theorem kb_D_sameParts : zBok y_D_sameParts b_D_sameParts 3 (some .boolean) 0 := ⟨zTs_at 315 rfl rfl, zTs_at 34 (by decide +kernel) (by decide +kernel), by decide +kernel, by decide +kernel, by decide +kernel⟩
theorem kb_D_sameSigns : zBok y_D_sameSigns b_D_sameSigns 2 (some .boolean) 0 := ⟨zTs_at 319 rfl rfl, zTs_at 34 (by decide +kernel) (by decide +kernel), by decide +kernel, by decide +kernel, by decide +kernel⟩
theorem kb_L_cell : zBok y_L_cell b_L_cell 2 (some .int) 2 := ⟨zTs_at 322 rfl rfl, zTs_at 33 (by decide +kernel) (by decide +kernel), by decide +kernel, by decide +kernel, by decide +kernel⟩
theorem kb_M_init : zBok y_M_init b_M_init 3 (none) 1 := ⟨zTs_at 327 rfl rfl, zTs_at 37 (by decide +kernel) (by decide +kernel), by decide +kernel, by decide +kernel, by decide +kernel⟩
theorem kb_M_draw : zBok y_M_draw b_M_draw 3 (some .int) 2 := ⟨zTs_at 367 rfl rfl, zTs_at 37 (by decide +kernel) (by decide +kernel), by decide +kernel, by decide +kernel, by decide +kernel⟩
theorem kb_M_can : zBok y_M_can b_M_can 2 (some .boolean) 2 := ⟨zTs_at 370 rfl rfl, zTs_at 37 (by decide +kernel) (by decide +kernel), by decide +kernel, by decide +kernel, by decide +kernel⟩
theorem kb_M_in : zBok y_M_in b_M_in 3 (some .boolean) 3 := ⟨zTs_at 373 rfl rfl, zTs_at 37 (by decide +kernel) (by decide +kernel), by decide +kernel, by decide +kernel, by decide +kernel⟩
theorem kb_M_draws : zBok y_M_draws b_M_draws 7 (none) 4 := ⟨zTs_at 377 rfl rfl, zTs_at 37 (by decide +kernel) (by decide +kernel), by decide +kernel, by decide +kernel, by decide +kernel⟩
theorem kb_M_part4 : zBok y_M_part4 b_M_part4 6 (none) 4 := ⟨zTs_at 383 rfl rfl, zTs_at 37 (by decide +kernel) (by decide +kernel), by decide +kernel, by decide +kernel, by decide +kernel⟩
theorem kb_M_at : zBok y_M_at b_M_at 2 (some .int) 2 := ⟨zTs_at 386 rfl rfl, zTs_at 37 (by decide +kernel) (by decide +kernel), by decide +kernel, by decide +kernel, by decide +kernel⟩
theorem kb_M_record : zBok y_M_record b_M_record 6 (none) 2 := ⟨zTs_at 390 rfl rfl, zTs_at 37 (by decide +kernel) (by decide +kernel), by decide +kernel, by decide +kernel, by decide +kernel⟩
theorem kb_M_next : zBok y_M_next b_M_next 2 (some .int) 1 := ⟨zTs_at 394 rfl rfl, zTs_at 37 (by decide +kernel) (by decide +kernel), by decide +kernel, by decide +kernel, by decide +kernel⟩
theorem kb_M_file : zBok y_M_file b_M_file 9 (none) 2 := ⟨zTs_at 400 rfl rfl, zTs_at 37 (by decide +kernel) (by decide +kernel), by decide +kernel, by decide +kernel, by decide +kernel⟩
theorem kb_M_all : zBok y_M_all b_M_all 1 (some .int) 0 := ⟨zTs_at 404 rfl rfl, zTs_at 37 (by decide +kernel) (by decide +kernel), by decide +kernel, by decide +kernel, by decide +kernel⟩
theorem kb_M_part : zBok y_M_part b_M_part 3 (some .int) 2 := ⟨zTs_at 408 rfl rfl, zTs_at 37 (by decide +kernel) (by decide +kernel), by decide +kernel, by decide +kernel, by decide +kernel⟩
theorem kb_M_isPart : zBok y_M_isPart b_M_isPart 2 (some .boolean) 1 := ⟨zTs_at 412 rfl rfl, zTs_at 37 (by decide +kernel) (by decide +kernel), by decide +kernel, by decide +kernel, by decide +kernel⟩
theorem kb_M_letter : zBok y_M_letter b_M_letter 5 (some .int) 1 := ⟨zTs_at 416 rfl rfl, zTs_at 37 (by decide +kernel) (by decide +kernel), by decide +kernel, by decide +kernel, by decide +kernel⟩
theorem kb_M_majority : zBok y_M_majority b_M_majority 2 (some .int) 1 := ⟨zTs_at 420 rfl rfl, zTs_at 37 (by decide +kernel) (by decide +kernel), by decide +kernel, by decide +kernel, by decide +kernel⟩
theorem kb_M_wins : zBok y_M_wins b_M_wins 6 (some .int) 1 := ⟨zTs_at 424 rfl rfl, zTs_at 37 (by decide +kernel) (by decide +kernel), by decide +kernel, by decide +kernel, by decide +kernel⟩
theorem kb_M_ends : zBok y_M_ends b_M_ends 2 (some .boolean) 1 := ⟨zTs_at 428 rfl rfl, zTs_at 37 (by decide +kernel) (by decide +kernel), by decide +kernel, by decide +kernel, by decide +kernel⟩
theorem kb_M_lastDay : zBok y_M_lastDay b_M_lastDay 2 (some .int) 1 := ⟨zTs_at 432 rfl rfl, zTs_at 37 (by decide +kernel) (by decide +kernel), by decide +kernel, by decide +kernel, by decide +kernel⟩
theorem kb_M_planted : zBok y_M_planted b_M_planted 4 (some .int) 1 := ⟨zTs_at 436 rfl rfl, zTs_at 37 (by decide +kernel) (by decide +kernel), by decide +kernel, by decide +kernel, by decide +kernel⟩
theorem kb_M_isPlanted : zBok y_M_isPlanted b_M_isPlanted 3 (some .boolean) 2 := ⟨zTs_at 440 rfl rfl, zTs_at 37 (by decide +kernel) (by decide +kernel), by decide +kernel, by decide +kernel, by decide +kernel⟩
theorem kb_M_verdict : zBok y_M_verdict b_M_verdict 3 (none) 2 := ⟨zTs_at 444 rfl rfl, zTs_at 37 (by decide +kernel) (by decide +kernel), by decide +kernel, by decide +kernel, by decide +kernel⟩
theorem kb_M_shorter : zBok y_M_shorter b_M_shorter 3 (some .int) 0 := ⟨zTs_at 448 rfl rfl, zTs_at 37 (by decide +kernel) (by decide +kernel), by decide +kernel, by decide +kernel, by decide +kernel⟩
theorem kb_M_stays : zBok y_M_stays b_M_stays 5 (some .boolean) 1 := ⟨zTs_at 452 rfl rfl, zTs_at 37 (by decide +kernel) (by decide +kernel), by decide +kernel, by decide +kernel, by decide +kernel⟩
theorem kb_M_count : zBok y_M_count b_M_count 3 (some .int) 1 := ⟨zTs_at 455 rfl rfl, zTs_at 37 (by decide +kernel) (by decide +kernel), by decide +kernel, by decide +kernel, by decide +kernel⟩
theorem kb_M_left : zBok y_M_left b_M_left 4 (some .int) 1 := ⟨zTs_at 459 rfl rfl, zTs_at 37 (by decide +kernel) (by decide +kernel), by decide +kernel, by decide +kernel, by decide +kernel⟩
theorem kb_M_minimal : zBok y_M_minimal b_M_minimal 3 (some .boolean) 0 := ⟨zTs_at 463 rfl rfl, zTs_at 37 (by decide +kernel) (by decide +kernel), by decide +kernel, by decide +kernel, by decide +kernel⟩
theorem kb_M_same : zBok y_M_same b_M_same 8 (some .boolean) 3 := ⟨zTs_at 467 rfl rfl, zTs_at 37 (by decide +kernel) (by decide +kernel), by decide +kernel, by decide +kernel, by decide +kernel⟩
theorem kc_L_15 : zIok N_L 15 y_D_init b_D_init 3 1 := ⟨kb_D_init, zTs_at 41 (by decide +kernel) (by decide +kernel), zTs_at 42 (by decide +kernel) (by decide +kernel), rfl⟩
theorem ko_D_3 : Cond.methodLink N_D 3 objectInit ∈ zTs := zTs_at 44 (by decide +kernel) (by decide +kernel)
theorem kc_D_11 : zINok N_D 11 "LibraryDrawer" y_K_init b_K_init 1 0 := ⟨kb_K_init, List.mem_of_getElem? (i := 0) rfl, zTs_at 50 (by decide +kernel) (by decide +kernel), rfl⟩
theorem ko_K_3 : Cond.methodLink N_K 3 objectInit ∈ zTs := zTs_at 52 (by decide +kernel) (by decide +kernel)
theorem kc_D_24 : zINok N_D 24 "LibraryDrawer" y_R_init b_R_init 1 0 := ⟨kb_R_init, List.mem_of_getElem? (i := 1) rfl, zTs_at 79 (by decide +kernel) (by decide +kernel), rfl⟩
theorem ko_R_3 : Cond.methodLink N_R 3 objectInit ∈ zTs := zTs_at 81 (by decide +kernel) (by decide +kernel)
theorem kc_L_21 : zVok N_L 21 y_D_draw b_D_draw 3 (some .int) 2 := ⟨kb_D_draw, zTs_at 111 (by decide +kernel) (by decide +kernel), zTs_at 112 (by decide +kernel) (by decide +kernel), zTs_at 113 (by decide +kernel) (by decide +kernel)⟩
theorem kc_D_40 : zSok N_D 40 y_D_canBeDrawn b_D_canBeDrawn 2 (some .boolean) 2 := ⟨kb_D_canBeDrawn, zTs_at 115 (by decide +kernel) (by decide +kernel), zTs_at 116 (by decide +kernel) (by decide +kernel)⟩
theorem kc_D_44 : zVok N_D 44 y_K_fill b_K_fill 6 (none) 3 := ⟨kb_K_fill, zTs_at 118 (by decide +kernel) (by decide +kernel), zTs_at 119 (by decide +kernel) (by decide +kernel), zTs_at 120 (by decide +kernel) (by decide +kernel)⟩
theorem kc_K_39 : zSNok N_K 39 "LibraryDrawer" y_D_canBeDrawn b_D_canBeDrawn 2 (some .boolean) 2 := ⟨kb_D_canBeDrawn, List.mem_of_getElem? (i := 2) rfl, zTs_at 116 (by decide +kernel) (by decide +kernel)⟩
theorem kc_K_47 : zVok N_K 47 y_K_fillPart b_K_fillPart 2 (none) 1 := ⟨kb_K_fillPart, zTs_at 125 (by decide +kernel) (by decide +kernel), zTs_at 127 (by decide +kernel) (by decide +kernel), zTs_at 0 (by decide +kernel) (by decide +kernel)⟩
theorem kc_K_51 : zVok N_K 51 y_K_fillRecord b_K_fillRecord 6 (none) 1 := ⟨kb_K_fillRecord, zTs_at 129 (by decide +kernel) (by decide +kernel), zTs_at 131 (by decide +kernel) (by decide +kernel), zTs_at 1 (by decide +kernel) (by decide +kernel)⟩
theorem kc_K_69 : zVok N_K 69 y_K_startTitle b_K_startTitle 2 (none) 1 := ⟨kb_K_startTitle, zTs_at 133 (by decide +kernel) (by decide +kernel), zTs_at 135 (by decide +kernel) (by decide +kernel), zTs_at 2 (by decide +kernel) (by decide +kernel)⟩
theorem kc_K_35 : zVok N_K 35 y_K_has b_K_has 2 (some .boolean) 1 := ⟨kb_K_has, zTs_at 137 (by decide +kernel) (by decide +kernel), zTs_at 139 (by decide +kernel) (by decide +kernel), zTs_at 3 (by decide +kernel) (by decide +kernel)⟩
theorem kc_K_72 : zVok N_K 72 y_K_next b_K_next 3 (some .int) 1 := ⟨kb_K_next, zTs_at 141 (by decide +kernel) (by decide +kernel), zTs_at 143 (by decide +kernel) (by decide +kernel), zTs_at 4 (by decide +kernel) (by decide +kernel)⟩
theorem kc_K_76 : zVok N_K 76 y_K_put b_K_put 5 (none) 4 := ⟨kb_K_put, zTs_at 147 (by decide +kernel) (by decide +kernel), zTs_at 149 (by decide +kernel) (by decide +kernel), zTs_at 5 (by decide +kernel) (by decide +kernel)⟩
theorem kc_K_80 : zVok N_K 80 y_K_addSign b_K_addSign 2 (none) 1 := ⟨kb_K_addSign, zTs_at 151 (by decide +kernel) (by decide +kernel), zTs_at 153 (by decide +kernel) (by decide +kernel), zTs_at 6 (by decide +kernel) (by decide +kernel)⟩
theorem kc_K_83 : zVok N_K 83 y_K_number b_K_number 3 (some .int) 2 := ⟨kb_K_number, zTs_at 155 (by decide +kernel) (by decide +kernel), zTs_at 156 (by decide +kernel) (by decide +kernel), zTs_at 157 (by decide +kernel) (by decide +kernel)⟩
theorem kc_K_87 : zVok N_K 87 y_K_repeatTitle b_K_repeatTitle 4 (none) 1 := ⟨kb_K_repeatTitle, zTs_at 159 (by decide +kernel) (by decide +kernel), zTs_at 161 (by decide +kernel) (by decide +kernel), zTs_at 7 (by decide +kernel) (by decide +kernel)⟩
theorem kc_K_90 : zVok N_K 90 y_K_sign b_K_sign 2 (some .int) 1 := ⟨kb_K_sign, zTs_at 163 (by decide +kernel) (by decide +kernel), zTs_at 164 (by decide +kernel) (by decide +kernel), zTs_at 165 (by decide +kernel) (by decide +kernel)⟩
theorem kc_K_54 : zVok N_K 54 y_K_fillFile b_K_fillFile 2 (none) 1 := ⟨kb_K_fillFile, zTs_at 167 (by decide +kernel) (by decide +kernel), zTs_at 169 (by decide +kernel) (by decide +kernel), zTs_at 8 (by decide +kernel) (by decide +kernel)⟩
theorem kc_K_93 : zVok N_K 93 y_K_fillFileWithWinner b_K_fillFileWithWinner 8 (none) 1 := ⟨kb_K_fillFileWithWinner, zTs_at 171 (by decide +kernel) (by decide +kernel), zTs_at 173 (by decide +kernel) (by decide +kernel), zTs_at 9 (by decide +kernel) (by decide +kernel)⟩
theorem kc_K_96 : zVok N_K 96 y_K_fillFileWithoutWinner b_K_fillFileWithoutWinner 6 (none) 1 := ⟨kb_K_fillFileWithoutWinner, zTs_at 175 (by decide +kernel) (by decide +kernel), zTs_at 177 (by decide +kernel) (by decide +kernel), zTs_at 10 (by decide +kernel) (by decide +kernel)⟩
theorem kc_K_57 : zVok N_K 57 y_K_fillPattern b_K_fillPattern 5 (none) 1 := ⟨kb_K_fillPattern, zTs_at 179 (by decide +kernel) (by decide +kernel), zTs_at 181 (by decide +kernel) (by decide +kernel), zTs_at 11 (by decide +kernel) (by decide +kernel)⟩
theorem kc_K_60 : zVok N_K 60 y_K_fillLine b_K_fillLine 5 (none) 1 := ⟨kb_K_fillLine, zTs_at 183 (by decide +kernel) (by decide +kernel), zTs_at 185 (by decide +kernel) (by decide +kernel), zTs_at 12 (by decide +kernel) (by decide +kernel)⟩
theorem kc_K_63 : zVok N_K 63 y_K_fillReader b_K_fillReader 4 (none) 1 := ⟨kb_K_fillReader, zTs_at 187 (by decide +kernel) (by decide +kernel), zTs_at 189 (by decide +kernel) (by decide +kernel), zTs_at 13 (by decide +kernel) (by decide +kernel)⟩
theorem kc_K_66 : zVok N_K 66 y_K_fillAct b_K_fillAct 4 (none) 1 := ⟨kb_K_fillAct, zTs_at 191 (by decide +kernel) (by decide +kernel), zTs_at 193 (by decide +kernel) (by decide +kernel), zTs_at 14 (by decide +kernel) (by decide +kernel)⟩
theorem kc_K_99 : zVok N_K 99 y_K_timeBefore b_K_timeBefore 2 (some .int) 1 := ⟨kb_K_timeBefore, zTs_at 195 (by decide +kernel) (by decide +kernel), zTs_at 197 (by decide +kernel) (by decide +kernel), zTs_at 15 (by decide +kernel) (by decide +kernel)⟩
theorem kc_D_48 : zVok N_D 48 y_R_clear b_R_clear 1 (none) 0 := ⟨kb_R_clear, zTs_at 199 (by decide +kernel) (by decide +kernel), zTs_at 200 (by decide +kernel) (by decide +kernel), zTs_at 201 (by decide +kernel) (by decide +kernel)⟩
theorem kc_D_51 : zVok N_D 51 y_K_allParts b_K_allParts 1 (some .int) 0 := ⟨kb_K_allParts, zTs_at 203 (by decide +kernel) (by decide +kernel), zTs_at 204 (by decide +kernel) (by decide +kernel), zTs_at 205 (by decide +kernel) (by decide +kernel)⟩
theorem kc_D_55 : zVok N_D 55 y_K_count b_K_count 1 (some .int) 0 := ⟨kb_K_count, zTs_at 207 (by decide +kernel) (by decide +kernel), zTs_at 208 (by decide +kernel) (by decide +kernel), zTs_at 209 (by decide +kernel) (by decide +kernel)⟩
theorem kc_L_26 : zVok N_L 26 y_D_part b_D_part 3 (some .int) 2 := ⟨kb_D_part, zTs_at 211 (by decide +kernel) (by decide +kernel), zTs_at 212 (by decide +kernel) (by decide +kernel), zTs_at 213 (by decide +kernel) (by decide +kernel)⟩
theorem kc_D_58 : zVok N_D 58 y_K_number b_K_number 3 (some .int) 2 := ⟨kb_K_number, zTs_at 215 (by decide +kernel) (by decide +kernel), zTs_at 156 (by decide +kernel) (by decide +kernel), zTs_at 157 (by decide +kernel) (by decide +kernel)⟩
theorem kc_L_30 : zVok N_L 30 y_D_letter b_D_letter 2 (some .int) 1 := ⟨kb_D_letter, zTs_at 216 (by decide +kernel) (by decide +kernel), zTs_at 217 (by decide +kernel) (by decide +kernel), zTs_at 218 (by decide +kernel) (by decide +kernel)⟩
theorem kc_D_62 : zVok N_D 62 y_K_sign b_K_sign 2 (some .int) 1 := ⟨kb_K_sign, zTs_at 220 (by decide +kernel) (by decide +kernel), zTs_at 164 (by decide +kernel) (by decide +kernel), zTs_at 165 (by decide +kernel) (by decide +kernel)⟩
theorem kc_L_35 : zVok N_L 35 y_D_majority b_D_majority 2 (some .int) 1 := ⟨kb_D_majority, zTs_at 221 (by decide +kernel) (by decide +kernel), zTs_at 222 (by decide +kernel) (by decide +kernel), zTs_at 223 (by decide +kernel) (by decide +kernel)⟩
theorem kc_D_66 : zVok N_D 66 y_K_winner b_K_winner 3 (some .int) 1 := ⟨kb_K_winner, zTs_at 225 (by decide +kernel) (by decide +kernel), zTs_at 226 (by decide +kernel) (by decide +kernel), zTs_at 227 (by decide +kernel) (by decide +kernel)⟩
theorem kc_K_106 : zVok N_K 106 y_K_votes b_K_votes 8 (some .int) 2 := ⟨kb_K_votes, zTs_at 229 (by decide +kernel) (by decide +kernel), zTs_at 231 (by decide +kernel) (by decide +kernel), zTs_at 16 (by decide +kernel) (by decide +kernel)⟩
theorem kc_L_39 : zVok N_L 39 y_D_ends b_D_ends 2 (some .boolean) 1 := ⟨kb_D_ends, zTs_at 233 (by decide +kernel) (by decide +kernel), zTs_at 234 (by decide +kernel) (by decide +kernel), zTs_at 235 (by decide +kernel) (by decide +kernel)⟩
theorem kc_D_69 : zVok N_D 69 y_K_isPattern b_K_isPattern 2 (some .boolean) 1 := ⟨kb_K_isPattern, zTs_at 237 (by decide +kernel) (by decide +kernel), zTs_at 238 (by decide +kernel) (by decide +kernel), zTs_at 239 (by decide +kernel) (by decide +kernel)⟩
theorem kc_D_73 : zVok N_D 73 y_K_lastDay b_K_lastDay 2 (some .int) 1 := ⟨kb_K_lastDay, zTs_at 241 (by decide +kernel) (by decide +kernel), zTs_at 242 (by decide +kernel) (by decide +kernel), zTs_at 243 (by decide +kernel) (by decide +kernel)⟩
theorem kc_L_44 : zVok N_L 44 y_D_planted b_D_planted 4 (some .int) 1 := ⟨kb_D_planted, zTs_at 245 (by decide +kernel) (by decide +kernel), zTs_at 246 (by decide +kernel) (by decide +kernel), zTs_at 247 (by decide +kernel) (by decide +kernel)⟩
theorem kc_D_76 : zVok N_D 76 y_K_shows b_K_shows 3 (some .boolean) 2 := ⟨kb_K_shows, zTs_at 249 (by decide +kernel) (by decide +kernel), zTs_at 250 (by decide +kernel) (by decide +kernel), zTs_at 251 (by decide +kernel) (by decide +kernel)⟩
theorem kc_K_109 : zVok N_K 109 y_K_winner b_K_winner 3 (some .int) 1 := ⟨kb_K_winner, zTs_at 253 (by decide +kernel) (by decide +kernel), zTs_at 226 (by decide +kernel) (by decide +kernel), zTs_at 227 (by decide +kernel) (by decide +kernel)⟩
theorem kc_K_112 : zVok N_K 112 y_K_isPattern b_K_isPattern 2 (some .boolean) 1 := ⟨kb_K_isPattern, zTs_at 254 (by decide +kernel) (by decide +kernel), zTs_at 238 (by decide +kernel) (by decide +kernel), zTs_at 239 (by decide +kernel) (by decide +kernel)⟩
theorem kc_K_115 : zVok N_K 115 y_K_lastDay b_K_lastDay 2 (some .int) 1 := ⟨kb_K_lastDay, zTs_at 255 (by decide +kernel) (by decide +kernel), zTs_at 242 (by decide +kernel) (by decide +kernel), zTs_at 243 (by decide +kernel) (by decide +kernel)⟩
theorem kc_L_48 : zVok N_L 48 y_D_verdict b_D_verdict 4 (none) 2 := ⟨kb_D_verdict, zTs_at 256 (by decide +kernel) (by decide +kernel), zTs_at 257 (by decide +kernel) (by decide +kernel), zTs_at 258 (by decide +kernel) (by decide +kernel)⟩
theorem kc_D_79 : zVok N_D 79 y_R_add b_R_add 2 (none) 1 := ⟨kb_R_add, zTs_at 260 (by decide +kernel) (by decide +kernel), zTs_at 261 (by decide +kernel) (by decide +kernel), zTs_at 262 (by decide +kernel) (by decide +kernel)⟩
theorem kc_L_53 : zVok N_L 53 y_D_shorter b_D_shorter 1 (some .int) 0 := ⟨kb_D_shorter, zTs_at 264 (by decide +kernel) (by decide +kernel), zTs_at 265 (by decide +kernel) (by decide +kernel), zTs_at 266 (by decide +kernel) (by decide +kernel)⟩
theorem kc_D_83 : zVok N_D 83 y_D_smallerCase b_D_smallerCase 5 (some .int) 1 := ⟨kb_D_smallerCase, zTs_at 268 (by decide +kernel) (by decide +kernel), zTs_at 270 (by decide +kernel) (by decide +kernel), zTs_at 17 (by decide +kernel) (by decide +kernel)⟩
theorem kc_D_94 : zVok N_D 94 y_D_staysFor b_D_staysFor 2 (some .boolean) 1 := ⟨kb_D_staysFor, zTs_at 272 (by decide +kernel) (by decide +kernel), zTs_at 274 (by decide +kernel) (by decide +kernel), zTs_at 18 (by decide +kernel) (by decide +kernel)⟩
theorem kc_D_107 : zVok N_D 107 y_R_oneIsWithin b_R_oneIsWithin 3 (some .boolean) 1 := ⟨kb_R_oneIsWithin, zTs_at 276 (by decide +kernel) (by decide +kernel), zTs_at 277 (by decide +kernel) (by decide +kernel), zTs_at 278 (by decide +kernel) (by decide +kernel)⟩
theorem kc_D_110 : zVok N_D 110 y_R_oneIsTornBy b_R_oneIsTornBy 4 (some .boolean) 1 := ⟨kb_R_oneIsTornBy, zTs_at 280 (by decide +kernel) (by decide +kernel), zTs_at 281 (by decide +kernel) (by decide +kernel), zTs_at 282 (by decide +kernel) (by decide +kernel)⟩
theorem kc_D_113 : zVok N_D 113 y_D_afterOneGoing b_D_afterOneGoing 4 (some .int) 1 := ⟨kb_D_afterOneGoing, zTs_at 284 (by decide +kernel) (by decide +kernel), zTs_at 286 (by decide +kernel) (by decide +kernel), zTs_at 19 (by decide +kernel) (by decide +kernel)⟩
theorem kc_D_91 : zSok N_D 91 y_D_isIn b_D_isIn 2 (some .boolean) 2 := ⟨kb_D_isIn, zTs_at 288 (by decide +kernel) (by decide +kernel), zTs_at 289 (by decide +kernel) (by decide +kernel)⟩
theorem kc_D_97 : zSok N_D 97 y_D_without b_D_without 2 (some .int) 2 := ⟨kb_D_without, zTs_at 291 (by decide +kernel) (by decide +kernel), zTs_at 292 (by decide +kernel) (by decide +kernel)⟩
theorem kc_D_86 : zSok N_D 86 y_J_bitCount b_J_bitCount 1 (some .int) 1 := ⟨kb_J_bitCount, zTs_at 294 (by decide +kernel) (by decide +kernel), zTs_at 295 (by decide +kernel) (by decide +kernel)⟩
theorem kc_L_58 : zVok N_L 58 y_D_left b_D_left 4 (some .int) 1 := ⟨kb_D_left, zTs_at 300 (by decide +kernel) (by decide +kernel), zTs_at 301 (by decide +kernel) (by decide +kernel), zTs_at 302 (by decide +kernel) (by decide +kernel)⟩
theorem kc_L_62 : zVok N_L 62 y_D_minimal b_D_minimal 2 (some .boolean) 0 := ⟨kb_D_minimal, zTs_at 304 (by decide +kernel) (by decide +kernel), zTs_at 305 (by decide +kernel) (by decide +kernel), zTs_at 306 (by decide +kernel) (by decide +kernel)⟩
theorem kc_L_69 : zVok N_L 69 y_D_same b_D_same 5 (some .boolean) 3 := ⟨kb_D_same, zTs_at 308 (by decide +kernel) (by decide +kernel), zTs_at 309 (by decide +kernel) (by decide +kernel), zTs_at 310 (by decide +kernel) (by decide +kernel)⟩
theorem kc_D_100 : zVok N_D 100 y_D_sameParts b_D_sameParts 3 (some .boolean) 0 := ⟨kb_D_sameParts, zTs_at 312 (by decide +kernel) (by decide +kernel), zTs_at 314 (by decide +kernel) (by decide +kernel), zTs_at 20 (by decide +kernel) (by decide +kernel)⟩
theorem kc_D_104 : zVok N_D 104 y_D_sameSigns b_D_sameSigns 2 (some .boolean) 0 := ⟨kb_D_sameSigns, zTs_at 316 (by decide +kernel) (by decide +kernel), zTs_at 318 (by decide +kernel) (by decide +kernel), zTs_at 21 (by decide +kernel) (by decide +kernel)⟩
theorem kc_L_9 : zSok N_L 9 y_L_cell b_L_cell 2 (some .int) 2 := ⟨kb_L_cell, zTs_at 320 (by decide +kernel) (by decide +kernel), zTs_at 321 (by decide +kernel) (by decide +kernel)⟩
theorem kc_L_20 : zIok N_L 20 y_M_init b_M_init 3 1 := ⟨kb_M_init, zTs_at 325 (by decide +kernel) (by decide +kernel), zTs_at 326 (by decide +kernel) (by decide +kernel), rfl⟩
theorem ko_M_1 : Cond.methodLink N_M 1 objectInit ∈ zTs := zTs_at 328 (by decide +kernel) (by decide +kernel)
theorem kc_L_25 : zVok N_L 25 y_M_draw b_M_draw 3 (some .int) 2 := ⟨kb_M_draw, zTs_at 364 (by decide +kernel) (by decide +kernel), zTs_at 365 (by decide +kernel) (by decide +kernel), zTs_at 366 (by decide +kernel) (by decide +kernel)⟩
theorem kc_M_68 : zSok N_M 68 y_M_can b_M_can 2 (some .boolean) 2 := ⟨kb_M_can, zTs_at 368 (by decide +kernel) (by decide +kernel), zTs_at 369 (by decide +kernel) (by decide +kernel)⟩
theorem kc_M_61 : zSok N_M 61 y_M_in b_M_in 3 (some .boolean) 3 := ⟨kb_M_in, zTs_at 371 (by decide +kernel) (by decide +kernel), zTs_at 372 (by decide +kernel) (by decide +kernel)⟩
theorem kc_M_72 : zVok N_M 72 y_M_draws b_M_draws 7 (none) 4 := ⟨kb_M_draws, zTs_at 374 (by decide +kernel) (by decide +kernel), zTs_at 376 (by decide +kernel) (by decide +kernel), zTs_at 22 (by decide +kernel) (by decide +kernel)⟩
theorem kc_M_57 : zVok N_M 57 y_M_part4 b_M_part4 6 (none) 4 := ⟨kb_M_part4, zTs_at 380 (by decide +kernel) (by decide +kernel), zTs_at 382 (by decide +kernel) (by decide +kernel), zTs_at 23 (by decide +kernel) (by decide +kernel)⟩
theorem kc_M_38 : zSok N_M 38 y_M_at b_M_at 2 (some .int) 2 := ⟨kb_M_at, zTs_at 384 (by decide +kernel) (by decide +kernel), zTs_at 385 (by decide +kernel) (by decide +kernel)⟩
theorem kc_M_46 : zVok N_M 46 y_M_record b_M_record 6 (none) 2 := ⟨kb_M_record, zTs_at 387 (by decide +kernel) (by decide +kernel), zTs_at 389 (by decide +kernel) (by decide +kernel), zTs_at 24 (by decide +kernel) (by decide +kernel)⟩
theorem kc_M_42 : zVok N_M 42 y_M_next b_M_next 2 (some .int) 1 := ⟨kb_M_next, zTs_at 391 (by decide +kernel) (by decide +kernel), zTs_at 393 (by decide +kernel) (by decide +kernel), zTs_at 25 (by decide +kernel) (by decide +kernel)⟩
theorem kc_M_50 : zVok N_M 50 y_M_file b_M_file 9 (none) 2 := ⟨kb_M_file, zTs_at 397 (by decide +kernel) (by decide +kernel), zTs_at 399 (by decide +kernel) (by decide +kernel), zTs_at 26 (by decide +kernel) (by decide +kernel)⟩
theorem kc_M_82 : zVok N_M 82 y_M_all b_M_all 1 (some .int) 0 := ⟨kb_M_all, zTs_at 401 (by decide +kernel) (by decide +kernel), zTs_at 403 (by decide +kernel) (by decide +kernel), zTs_at 27 (by decide +kernel) (by decide +kernel)⟩
theorem kc_L_29 : zVok N_L 29 y_M_part b_M_part 3 (some .int) 2 := ⟨kb_M_part, zTs_at 405 (by decide +kernel) (by decide +kernel), zTs_at 406 (by decide +kernel) (by decide +kernel), zTs_at 407 (by decide +kernel) (by decide +kernel)⟩
theorem kc_M_89 : zVok N_M 89 y_M_isPart b_M_isPart 2 (some .boolean) 1 := ⟨kb_M_isPart, zTs_at 409 (by decide +kernel) (by decide +kernel), zTs_at 411 (by decide +kernel) (by decide +kernel), zTs_at 28 (by decide +kernel) (by decide +kernel)⟩
theorem kc_L_34 : zVok N_L 34 y_M_letter b_M_letter 5 (some .int) 1 := ⟨kb_M_letter, zTs_at 413 (by decide +kernel) (by decide +kernel), zTs_at 414 (by decide +kernel) (by decide +kernel), zTs_at 415 (by decide +kernel) (by decide +kernel)⟩
theorem kc_L_38 : zVok N_L 38 y_M_majority b_M_majority 2 (some .int) 1 := ⟨kb_M_majority, zTs_at 417 (by decide +kernel) (by decide +kernel), zTs_at 418 (by decide +kernel) (by decide +kernel), zTs_at 419 (by decide +kernel) (by decide +kernel)⟩
theorem kc_M_93 : zVok N_M 93 y_M_wins b_M_wins 6 (some .int) 1 := ⟨kb_M_wins, zTs_at 421 (by decide +kernel) (by decide +kernel), zTs_at 423 (by decide +kernel) (by decide +kernel), zTs_at 29 (by decide +kernel) (by decide +kernel)⟩
theorem kc_L_43 : zVok N_L 43 y_M_ends b_M_ends 2 (some .boolean) 1 := ⟨kb_M_ends, zTs_at 425 (by decide +kernel) (by decide +kernel), zTs_at 426 (by decide +kernel) (by decide +kernel), zTs_at 427 (by decide +kernel) (by decide +kernel)⟩
theorem kc_M_96 : zVok N_M 96 y_M_lastDay b_M_lastDay 2 (some .int) 1 := ⟨kb_M_lastDay, zTs_at 429 (by decide +kernel) (by decide +kernel), zTs_at 431 (by decide +kernel) (by decide +kernel), zTs_at 30 (by decide +kernel) (by decide +kernel)⟩
theorem kc_L_47 : zVok N_L 47 y_M_planted b_M_planted 4 (some .int) 1 := ⟨kb_M_planted, zTs_at 433 (by decide +kernel) (by decide +kernel), zTs_at 434 (by decide +kernel) (by decide +kernel), zTs_at 435 (by decide +kernel) (by decide +kernel)⟩
theorem kc_M_99 : zVok N_M 99 y_M_isPlanted b_M_isPlanted 3 (some .boolean) 2 := ⟨kb_M_isPlanted, zTs_at 437 (by decide +kernel) (by decide +kernel), zTs_at 439 (by decide +kernel) (by decide +kernel), zTs_at 31 (by decide +kernel) (by decide +kernel)⟩
theorem kc_L_52 : zVok N_L 52 y_M_verdict b_M_verdict 3 (none) 2 := ⟨kb_M_verdict, zTs_at 441 (by decide +kernel) (by decide +kernel), zTs_at 442 (by decide +kernel) (by decide +kernel), zTs_at 443 (by decide +kernel) (by decide +kernel)⟩
theorem kc_L_57 : zVok N_L 57 y_M_shorter b_M_shorter 3 (some .int) 0 := ⟨kb_M_shorter, zTs_at 445 (by decide +kernel) (by decide +kernel), zTs_at 446 (by decide +kernel) (by decide +kernel), zTs_at 447 (by decide +kernel) (by decide +kernel)⟩
theorem kc_M_102 : zVok N_M 102 y_M_stays b_M_stays 5 (some .boolean) 1 := ⟨kb_M_stays, zTs_at 449 (by decide +kernel) (by decide +kernel), zTs_at 451 (by decide +kernel) (by decide +kernel), zTs_at 32 (by decide +kernel) (by decide +kernel)⟩
theorem kc_M_105 : zSok N_M 105 y_M_count b_M_count 3 (some .int) 1 := ⟨kb_M_count, zTs_at 453 (by decide +kernel) (by decide +kernel), zTs_at 454 (by decide +kernel) (by decide +kernel)⟩
theorem kc_L_61 : zVok N_L 61 y_M_left b_M_left 4 (some .int) 1 := ⟨kb_M_left, zTs_at 456 (by decide +kernel) (by decide +kernel), zTs_at 457 (by decide +kernel) (by decide +kernel), zTs_at 458 (by decide +kernel) (by decide +kernel)⟩
theorem kc_L_66 : zVok N_L 66 y_M_minimal b_M_minimal 3 (some .boolean) 0 := ⟨kb_M_minimal, zTs_at 460 (by decide +kernel) (by decide +kernel), zTs_at 461 (by decide +kernel) (by decide +kernel), zTs_at 462 (by decide +kernel) (by decide +kernel)⟩
theorem kc_L_73 : zVok N_L 73 y_M_same b_M_same 8 (some .boolean) 3 := ⟨kb_M_same, zTs_at 464 (by decide +kernel) (by decide +kernel), zTs_at 465 (by decide +kernel) (by decide +kernel), zTs_at 466 (by decide +kernel) (by decide +kernel)⟩
theorem kn_D : Cond.initialized N_D ∈ zTs := zTs_at 34 (by decide +kernel) (by decide +kernel)
theorem kn_K : Cond.initialized N_K ∈ zTs := zTs_at 35 (by decide +kernel) (by decide +kernel)
theorem kn_R : Cond.initialized N_R ∈ zTs := zTs_at 36 (by decide +kernel) (by decide +kernel)
theorem kn_M : Cond.initialized N_M ∈ zTs := zTs_at 37 (by decide +kernel) (by decide +kernel)
theorem kl_L_7 : Cond.classLink N_L 7 N_D ∈ zTs := zTs_at 39 (by decide +kernel) (by decide +kernel)
theorem ki_D : Cond.instantiable N_D 7 ∈ zTs := zTs_at 40 (by decide +kernel) (by decide +kernel)
theorem kl_D_9 : Cond.classLink N_D 9 N_K ∈ zTs := zTs_at 47 (by decide +kernel) (by decide +kernel)
theorem ki_K : Cond.instantiable N_K 7 ∈ zTs := zTs_at 48 (by decide +kernel) (by decide +kernel)
theorem ka_int : Cond.arrayClass .int ∈ zTs := zTs_at 75 (by decide +kernel) (by decide +kernel)
theorem kl_D_22 : Cond.classLink N_D 22 N_R ∈ zTs := zTs_at 76 (by decide +kernel) (by decide +kernel)
theorem ki_R : Cond.instantiable N_R 2 ∈ zTs := zTs_at 77 (by decide +kernel) (by decide +kernel)
theorem kl_L_18 : Cond.classLink N_L 18 N_M ∈ zTs := zTs_at 323 (by decide +kernel) (by decide +kernel)
theorem ki_M : Cond.instantiable N_M 11 ∈ zTs := zTs_at 324 (by decide +kernel) (by decide +kernel)
theorem ka_byte : Cond.arrayClass .byte ∈ zTs := zTs_at 363 (by decide +kernel) (by decide +kernel)
