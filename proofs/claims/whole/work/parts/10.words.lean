/-! WORDS: which links the tables hold; written by a program -/
theorem tm1 {w : Cond} (h : w ∈ tables_1_1) : w ∈ lw_tbl := List.mem_append_right _ (List.mem_append_left _ h)
theorem tm2 {w : Cond} (h : w ∈ tables_1_2) : w ∈ lw_tbl := List.mem_append_right _ (List.mem_append_right _ (List.mem_append_left _ h))
theorem tm3 {w : Cond} (h : w ∈ tables_1_3) : w ∈ lw_tbl := List.mem_append_right _ (List.mem_append_right _ (List.mem_append_right _ (List.mem_append_left _ h)))
theorem tm4 {w : Cond} (h : w ∈ tables_1_4) : w ∈ lw_tbl := List.mem_append_right _ (List.mem_append_right _ (List.mem_append_right _ (List.mem_append_right _ (List.mem_append_left _ h))))
theorem tm5 {w : Cond} (h : w ∈ tables_1_5) : w ∈ lw_tbl := List.mem_append_right _ (List.mem_append_right _ (List.mem_append_right _ (List.mem_append_right _ (List.mem_append_right _ (List.mem_append_left _ h)))))
theorem tm6 {w : Cond} (h : w ∈ tables_1_6) : w ∈ lw_tbl := List.mem_append_right _ (List.mem_append_right _ (List.mem_append_right _ (List.mem_append_right _ (List.mem_append_right _ (List.mem_append_right _ (h))))))
theorem inTJx4a65c : ∀ w ∈ u_ws RJx4a65c TJx4a65c 3, w ∈ TB := by
  intro w hw
  obtain ⟨j, hj, rfl⟩ := List.mem_map.mp hw
  have hj := List.mem_range.mp hj
  rcases (show j = 0 ∨ j = 1 ∨ j = 2 by omega) with rfl | rfl | rfl
  · exact TB_of (tm1 (List.mem_of_getElem? (i := 147) rfl)) rfl
  · exact TB_of (tm1 (List.mem_of_getElem? (i := 143) rfl)) rfl
  · exact TB_of (tm1 (List.mem_of_getElem? (i := 145) rfl)) rfl
theorem inTX0 : ∀ w ∈ u_ws RX0 TX0 2, w ∈ TB := by
  intro w hw
  obtain ⟨j, hj, rfl⟩ := List.mem_map.mp hw
  have hj := List.mem_range.mp hj
  rcases (show j = 0 ∨ j = 1 by omega) with rfl | rfl
  · exact TB_of (tm2 (List.mem_of_getElem? (i := 167) rfl)) rfl
  · exact TB_of (tm2 (List.mem_of_getElem? (i := 168) rfl)) rfl
theorem inTX1 : ∀ w ∈ u_ws RX1 TX1 2, w ∈ TB := by
  intro w hw
  obtain ⟨j, hj, rfl⟩ := List.mem_map.mp hw
  have hj := List.mem_range.mp hj
  rcases (show j = 0 ∨ j = 1 by omega) with rfl | rfl
  · exact TB_of (tm2 (List.mem_of_getElem? (i := 158) rfl)) rfl
  · exact TB_of (tm2 (List.mem_of_getElem? (i := 159) rfl)) rfl
theorem inTX3 : ∀ w ∈ u_ws RX3 TX3 3, w ∈ TB := by
  intro w hw
  obtain ⟨j, hj, rfl⟩ := List.mem_map.mp hw
  have hj := List.mem_range.mp hj
  rcases (show j = 0 ∨ j = 1 ∨ j = 2 by omega) with rfl | rfl | rfl
  · exact TB_of (tm1 (List.mem_of_getElem? (i := 177) rfl)) rfl
  · exact TB_of (tm1 (List.mem_of_getElem? (i := 179) rfl)) rfl
  · exact TB_of (tm1 (List.mem_of_getElem? (i := 181) rfl)) rfl
theorem inTX4 : ∀ w ∈ u_ws RX4 TX4 2, w ∈ TB := by
  intro w hw
  obtain ⟨j, hj, rfl⟩ := List.mem_map.mp hw
  have hj := List.mem_range.mp hj
  rcases (show j = 0 ∨ j = 1 by omega) with rfl | rfl
  · exact TB_of (tm2 (List.mem_of_getElem? (i := 182) rfl)) rfl
  · exact TB_of (tm2 (List.mem_of_getElem? (i := 183) rfl)) rfl
theorem inTX5 : ∀ w ∈ u_ws RX5 TX5 2, w ∈ TB := by
  intro w hw
  obtain ⟨j, hj, rfl⟩ := List.mem_map.mp hw
  have hj := List.mem_range.mp hj
  rcases (show j = 0 ∨ j = 1 by omega) with rfl | rfl
  · exact TB_of (tm2 (List.mem_of_getElem? (i := 147) rfl)) rfl
  · exact TB_of (tm2 (List.mem_of_getElem? (i := 149) rfl)) rfl
theorem inTX6 : ∀ w ∈ u_ws RX6 TX6 2, w ∈ TB := by
  intro w hw
  obtain ⟨j, hj, rfl⟩ := List.mem_map.mp hw
  have hj := List.mem_range.mp hj
  rcases (show j = 0 ∨ j = 1 by omega) with rfl | rfl
  · exact TB_of (tm2 (List.mem_of_getElem? (i := 176) rfl)) rfl
  · exact TB_of (tm2 (List.mem_of_getElem? (i := 177) rfl)) rfl
theorem inTX7 : ∀ w ∈ u_ws RX7 TX7 6, w ∈ TB := by
  intro w hw
  obtain ⟨j, hj, rfl⟩ := List.mem_map.mp hw
  have hj := List.mem_range.mp hj
  rcases (show j = 0 ∨ j = 1 ∨ j = 2 ∨ j = 3 ∨ j = 4 ∨ j = 5 by omega) with rfl | rfl | rfl | rfl | rfl | rfl
  · exact TB_of (tm1 (List.mem_of_getElem? (i := 88) rfl)) rfl
  · exact TB_of (tm1 (List.mem_of_getElem? (i := 90) rfl)) rfl
  · exact TB_of (tm1 (List.mem_of_getElem? (i := 92) rfl)) rfl
  · exact TB_of (tm1 (List.mem_of_getElem? (i := 94) rfl)) rfl
  · exact TB_of (tm1 (List.mem_of_getElem? (i := 96) rfl)) rfl
  · exact TB_of (tm1 (List.mem_of_getElem? (i := 98) rfl)) rfl
theorem inTX8 : ∀ w ∈ u_ws RX8 TX8 3, w ∈ TB := by
  intro w hw
  obtain ⟨j, hj, rfl⟩ := List.mem_map.mp hw
  have hj := List.mem_range.mp hj
  rcases (show j = 0 ∨ j = 1 ∨ j = 2 by omega) with rfl | rfl | rfl
  · exact TB_of (tm1 (List.mem_of_getElem? (i := 159) rfl)) rfl
  · exact TB_of (tm1 (List.mem_of_getElem? (i := 161) rfl)) rfl
  · exact TB_of (tm1 (List.mem_of_getElem? (i := 163) rfl)) rfl
theorem inTX9 : ∀ w ∈ u_ws RX9 TX9 5, w ∈ TB := by
  intro w hw
  obtain ⟨j, hj, rfl⟩ := List.mem_map.mp hw
  have hj := List.mem_range.mp hj
  rcases (show j = 0 ∨ j = 1 ∨ j = 2 ∨ j = 3 ∨ j = 4 by omega) with rfl | rfl | rfl | rfl | rfl
  · exact TB_of (tm1 (List.mem_of_getElem? (i := 48) rfl)) rfl
  · exact TB_of (tm1 (List.mem_of_getElem? (i := 50) rfl)) rfl
  · exact TB_of (tm1 (List.mem_of_getElem? (i := 52) rfl)) rfl
  · exact TB_of (tm1 (List.mem_of_getElem? (i := 54) rfl)) rfl
  · exact TB_of (tm1 (List.mem_of_getElem? (i := 56) rfl)) rfl
theorem inTX10 : ∀ w ∈ u_ws RX10 TX10 2, w ∈ TB := by
  intro w hw
  obtain ⟨j, hj, rfl⟩ := List.mem_map.mp hw
  have hj := List.mem_range.mp hj
  rcases (show j = 0 ∨ j = 1 by omega) with rfl | rfl
  · exact TB_of (tm1 (List.mem_of_getElem? (i := 112) rfl)) rfl
  · exact TB_of (tm1 (List.mem_of_getElem? (i := 114) rfl)) rfl
theorem inTX11 : ∀ w ∈ u_ws RX11 TX11 16, w ∈ TB := by
  intro w hw
  obtain ⟨j, hj, rfl⟩ := List.mem_map.mp hw
  have hj := List.mem_range.mp hj
  rcases (show j = 0 ∨ j = 1 ∨ j = 2 ∨ j = 3 ∨ j = 4 ∨ j = 5 ∨ j = 6 ∨ j = 7 ∨ j = 8 ∨ j = 9 ∨ j = 10 ∨ j = 11 ∨ j = 12 ∨ j = 13 ∨ j = 14 ∨ j = 15 by omega) with rfl | rfl | rfl | rfl | rfl | rfl | rfl | rfl | rfl | rfl | rfl | rfl | rfl | rfl | rfl | rfl
  · exact TB_of (tm1 (List.mem_of_getElem? (i := 200) rfl)) rfl
  · exact TB_of (tm1 (List.mem_of_getElem? (i := 202) rfl)) rfl
  · exact TB_of (tm1 (List.mem_of_getElem? (i := 204) rfl)) rfl
  · exact TB_of (tm1 (List.mem_of_getElem? (i := 206) rfl)) rfl
  · exact TB_of (tm1 (List.mem_of_getElem? (i := 208) rfl)) rfl
  · exact TB_of (tm1 (List.mem_of_getElem? (i := 210) rfl)) rfl
  · exact TB_of (tm1 (List.mem_of_getElem? (i := 212) rfl)) rfl
  · exact TB_of (tm1 (List.mem_of_getElem? (i := 214) rfl)) rfl
  · exact TB_of (tm1 (List.mem_of_getElem? (i := 216) rfl)) rfl
  · exact TB_of (tm1 (List.mem_of_getElem? (i := 218) rfl)) rfl
  · exact TB_of (tm1 (List.mem_of_getElem? (i := 220) rfl)) rfl
  · exact TB_of (tm1 (List.mem_of_getElem? (i := 222) rfl)) rfl
  · exact TB_of (tm1 (List.mem_of_getElem? (i := 224) rfl)) rfl
  · exact TB_of (tm1 (List.mem_of_getElem? (i := 226) rfl)) rfl
  · exact TB_of (tm1 (List.mem_of_getElem? (i := 228) rfl)) rfl
  · exact TB_of (tm1 (List.mem_of_getElem? (i := 230) rfl)) rfl
theorem inTX12 : ∀ w ∈ u_ws RX12 TX12 24, w ∈ TB := by
  intro w hw
  obtain ⟨j, hj, rfl⟩ := List.mem_map.mp hw
  have hj := List.mem_range.mp hj
  rcases (show j = 0 ∨ j = 1 ∨ j = 2 ∨ j = 3 ∨ j = 4 ∨ j = 5 ∨ j = 6 ∨ j = 7 ∨ j = 8 ∨ j = 9 ∨ j = 10 ∨ j = 11 ∨ j = 12 ∨ j = 13 ∨ j = 14 ∨ j = 15 ∨ j = 16 ∨ j = 17 ∨ j = 18 ∨ j = 19 ∨ j = 20 ∨ j = 21 ∨ j = 22 ∨ j = 23 by omega) with rfl | rfl | rfl | rfl | rfl | rfl | rfl | rfl | rfl | rfl | rfl | rfl | rfl | rfl | rfl | rfl | rfl | rfl | rfl | rfl | rfl | rfl | rfl | rfl
  · exact TB_of (tm4 (List.mem_of_getElem? (i := 224) rfl)) rfl
  · exact TB_of (tm4 (List.mem_of_getElem? (i := 226) rfl)) rfl
  · exact TB_of (tm4 (List.mem_of_getElem? (i := 228) rfl)) rfl
  · exact TB_of (tm4 (List.mem_of_getElem? (i := 230) rfl)) rfl
  · exact TB_of (tm4 (List.mem_of_getElem? (i := 232) rfl)) rfl
  · exact TB_of (tm4 (List.mem_of_getElem? (i := 234) rfl)) rfl
  · exact TB_of (tm4 (List.mem_of_getElem? (i := 236) rfl)) rfl
  · exact TB_of (tm4 (List.mem_of_getElem? (i := 238) rfl)) rfl
  · exact TB_of (tm5 (List.mem_of_getElem? (i := 0) rfl)) rfl
  · exact TB_of (tm5 (List.mem_of_getElem? (i := 2) rfl)) rfl
  · exact TB_of (tm5 (List.mem_of_getElem? (i := 4) rfl)) rfl
  · exact TB_of (tm5 (List.mem_of_getElem? (i := 6) rfl)) rfl
  · exact TB_of (tm5 (List.mem_of_getElem? (i := 8) rfl)) rfl
  · exact TB_of (tm5 (List.mem_of_getElem? (i := 10) rfl)) rfl
  · exact TB_of (tm5 (List.mem_of_getElem? (i := 12) rfl)) rfl
  · exact TB_of (tm5 (List.mem_of_getElem? (i := 14) rfl)) rfl
  · exact TB_of (tm5 (List.mem_of_getElem? (i := 16) rfl)) rfl
  · exact TB_of (tm5 (List.mem_of_getElem? (i := 18) rfl)) rfl
  · exact TB_of (tm5 (List.mem_of_getElem? (i := 20) rfl)) rfl
  · exact TB_of (tm5 (List.mem_of_getElem? (i := 22) rfl)) rfl
  · exact TB_of (tm5 (List.mem_of_getElem? (i := 24) rfl)) rfl
  · exact TB_of (tm5 (List.mem_of_getElem? (i := 26) rfl)) rfl
  · exact TB_of (tm5 (List.mem_of_getElem? (i := 28) rfl)) rfl
  · exact TB_of (tm5 (List.mem_of_getElem? (i := 30) rfl)) rfl
theorem wdObj : Cond.code objectInit ⟨#[0xb1]⟩ 1 none ∈ TB := TB_of (tm1 (List.mem_of_getElem? (i := 31) rfl)) rfl
theorem wd_0 : Cond.methodLink RX0 1 yX2_init ∈ TB := TB_of (tm2 (List.mem_of_getElem? (i := 166) rfl)) rfl
theorem wd_1 : Cond.instanceMethod yX2_init ∈ TB := TB_of (tm2 (List.mem_of_getElem? (i := 141) rfl)) rfl
theorem wd_2 : Cond.initialized RX2 ∈ TB := TB_of (tm1 (List.mem_of_getElem? (i := 14) rfl)) rfl
theorem wd_3 : Cond.code yX2_init cX2_init 3 none ∈ TB := TB_of (tm2 (List.mem_of_getElem? (i := 142) rfl)) rfl
theorem wd_4 : Cond.methodLink RX0 7 yX0_clearedHaze ∈ TB := TB_of (tm3 (List.mem_of_getElem? (i := 74) rfl)) rfl
theorem wd_5 : Cond.instanceMethod yX0_clearedHaze ∈ TB := TB_of (tm3 (List.mem_of_getElem? (i := 75) rfl)) rfl
theorem wd_6 : Cond.selects RX0 yX0_clearedHaze yX0_clearedHaze ∈ TB := TB_of (tm3 (List.mem_of_getElem? (i := 76) rfl)) rfl
theorem wd_7 : Cond.initialized RX0 ∈ TB := TB_of (tm1 (List.mem_of_getElem? (i := 18) rfl)) rfl
theorem wd_8 : Cond.code yX0_clearedHaze cX0_clearedHaze 1 (some .int) ∈ TB := TB_of (tm3 (List.mem_of_getElem? (i := 81) rfl)) rfl
theorem wd_9 : Cond.sameMethod "PadPolish$Clearing" "PadPolish$Clearing" "clearedHaze" "()I" ∈ TB := TB_of (tm3 (List.mem_of_getElem? (i := 77) rfl)) rfl
theorem wd_10 : Cond.selects RX6 yX0_clearedHaze yX6_clearedHaze ∈ TB := TB_of (tm3 (List.mem_of_getElem? (i := 78) rfl)) rfl
theorem wd_11 : Cond.instanceMethod yX6_clearedHaze ∈ TB := TB_of (tm3 (List.mem_of_getElem? (i := 79) rfl)) rfl
theorem wd_12 : Cond.initialized RX6 ∈ TB := TB_of (tm1 (List.mem_of_getElem? (i := 19) rfl)) rfl
theorem wd_13 : Cond.code yX6_clearedHaze cX6_clearedHaze 1 (some .int) ∈ TB := TB_of (tm3 (List.mem_of_getElem? (i := 80) rfl)) rfl
theorem wd_14 : Cond.methodLink RX0 13 yX7_takeHaze ∈ TB := TB_of (tm3 (List.mem_of_getElem? (i := 82) rfl)) rfl
theorem wd_15 : Cond.instanceMethod yX7_takeHaze ∈ TB := TB_of (tm3 (List.mem_of_getElem? (i := 83) rfl)) rfl
theorem wd_16 : Cond.selects RX7 yX7_takeHaze yX7_takeHaze ∈ TB := TB_of (tm3 (List.mem_of_getElem? (i := 84) rfl)) rfl
theorem wd_17 : Cond.initialized RX7 ∈ TB := TB_of (tm1 (List.mem_of_getElem? (i := 3) rfl)) rfl
theorem wd_18 : Cond.code yX7_takeHaze cX7_takeHaze 3 none ∈ TB := TB_of (tm3 (List.mem_of_getElem? (i := 85) rfl)) rfl
theorem nb_19 : Cond.fieldLinkNest RX0 19 "PadPolish$Surface" "soft" "[I" "PadPolish" ∈ NB := NB_of (tm1 (List.mem_of_getElem? (i := 75) rfl)) rfl
theorem wd_20 : Cond.methodLink RX0 23 Lib.Math.min.name ∈ TB := TB_of (tm3 (List.mem_of_getElem? (i := 87) rfl)) rfl
theorem wd_21 : Cond.static Lib.Math.min.name ∈ TB := TB_of (tm2 (List.mem_of_getElem? (i := 126) rfl)) rfl
theorem wd_22 : Cond.initialized RJ9 ∈ TB := TB_of (tm1 (List.mem_of_getElem? (i := 13) rfl)) rfl
theorem wd_23 : Cond.code Lib.Math.min.name Lib.Math.min.code 2 (some .int) ∈ TB := TB_of (tm2 (List.mem_of_getElem? (i := 127) rfl)) rfl
theorem wd_24 : Cond.methodLink RX0 29 yX7_takeSoft ∈ TB := TB_of (tm3 (List.mem_of_getElem? (i := 88) rfl)) rfl
theorem wd_25 : Cond.instanceMethod yX7_takeSoft ∈ TB := TB_of (tm3 (List.mem_of_getElem? (i := 89) rfl)) rfl
theorem wd_26 : Cond.selects RX7 yX7_takeSoft yX7_takeSoft ∈ TB := TB_of (tm3 (List.mem_of_getElem? (i := 90) rfl)) rfl
theorem wd_27 : Cond.code yX7_takeSoft cX7_takeSoft 3 none ∈ TB := TB_of (tm3 (List.mem_of_getElem? (i := 91) rfl)) rfl
theorem wd_28 : Cond.methodLink RX0 32 yX7_dryPad ∈ TB := TB_of (tm3 (List.mem_of_getElem? (i := 92) rfl)) rfl
theorem wd_29 : Cond.instanceMethod yX7_dryPad ∈ TB := TB_of (tm3 (List.mem_of_getElem? (i := 93) rfl)) rfl
theorem wd_30 : Cond.selects RX7 yX7_dryPad yX7_dryPad ∈ TB := TB_of (tm3 (List.mem_of_getElem? (i := 94) rfl)) rfl
theorem wd_31 : Cond.code yX7_dryPad cX7_dryPad 1 none ∈ TB := TB_of (tm3 (List.mem_of_getElem? (i := 95) rfl)) rfl
theorem wd_32 : Cond.methodLink RX0 36 yX10_leave ∈ TB := TB_of (tm4 (List.mem_of_getElem? (i := 130) rfl)) rfl
theorem wd_33 : Cond.instanceMethod yX10_leave ∈ TB := TB_of (tm4 (List.mem_of_getElem? (i := 131) rfl)) rfl
theorem wd_34 : Cond.selects RX10 yX10_leave yX10_leave ∈ TB := TB_of (tm4 (List.mem_of_getElem? (i := 132) rfl)) rfl
theorem wd_35 : Cond.initialized RX10 ∈ TB := TB_of (tm1 (List.mem_of_getElem? (i := 4) rfl)) rfl
theorem wd_36 : Cond.code yX10_leave cX10_leave 2 none ∈ TB := TB_of (tm4 (List.mem_of_getElem? (i := 133) rfl)) rfl
theorem wd_37 : Cond.methodLink RX0 42 yX2_size ∈ TB := TB_of (tm4 (List.mem_of_getElem? (i := 134) rfl)) rfl
theorem wd_38 : Cond.sameMethod "PadPolish$Pass" "PadPolish$Pass" "size" "(ILPadPolish$Trace;)I" ∈ TB := TB_of (tm4 (List.mem_of_getElem? (i := 126) rfl)) rfl
theorem wd_39 : Cond.superclass RX0 RX2 ∈ TB := TB_of (tm2 (List.mem_of_getElem? (i := 169) rfl)) rfl
theorem wd_40 : Cond.instanceMethod yX2_size ∈ TB := TB_of (tm4 (List.mem_of_getElem? (i := 125) rfl)) rfl
theorem wd_41 : Cond.code yX2_size cX2_size 3 (some .int) ∈ TB := TB_of (tm4 (List.mem_of_getElem? (i := 169) rfl)) rfl
theorem wd_42 : Cond.methodLink RX0 46 yX2_mark ∈ TB := TB_of (tm4 (List.mem_of_getElem? (i := 173) rfl)) rfl
theorem wd_43 : Cond.sameMethod "PadPolish$Pass" "PadPolish$Pass" "mark" "(ILPadPolish$Trace;)I" ∈ TB := TB_of (tm6 (List.mem_of_getElem? (i := 126) rfl)) rfl
theorem wd_44 : Cond.instanceMethod yX2_mark ∈ TB := TB_of (tm4 (List.mem_of_getElem? (i := 156) rfl)) rfl
theorem wd_45 : Cond.code yX2_mark cX2_mark 3 (some .int) ∈ TB := TB_of (tm4 (List.mem_of_getElem? (i := 157) rfl)) rfl
theorem wd_46 : Cond.methodLink RX0 49 yX0_size ∈ TB := TB_of (tm4 (List.mem_of_getElem? (i := 174) rfl)) rfl
theorem wd_47 : Cond.instanceMethod yX0_size ∈ TB := TB_of (tm4 (List.mem_of_getElem? (i := 128) rfl)) rfl
theorem wd_48 : Cond.selects RX0 yX0_size yX0_size ∈ TB := TB_of (tm6 (List.mem_of_getElem? (i := 130) rfl)) rfl
theorem wd_49 : Cond.code yX0_size cX0_size 3 (some .int) ∈ TB := TB_of (tm4 (List.mem_of_getElem? (i := 129) rfl)) rfl
theorem wd_50 : Cond.sameMethod "PadPolish$Clearing" "PadPolish$Clearing" "size" "(ILPadPolish$Trace;)I" ∈ TB := TB_of (tm6 (List.mem_of_getElem? (i := 128) rfl)) rfl
theorem wd_51 : Cond.selects RX6 yX0_size yX6_size ∈ TB := TB_of (tm6 (List.mem_of_getElem? (i := 131) rfl)) rfl
theorem wd_52 : Cond.instanceMethod yX6_size ∈ TB := TB_of (tm4 (List.mem_of_getElem? (i := 165) rfl)) rfl
theorem wd_53 : Cond.code yX6_size cX6_size 3 (some .int) ∈ TB := TB_of (tm4 (List.mem_of_getElem? (i := 166) rfl)) rfl
theorem wd_54 : Cond.methodLink RX1 1 yX4_init ∈ TB := TB_of (tm2 (List.mem_of_getElem? (i := 157) rfl)) rfl
theorem wd_55 : Cond.instanceMethod yX4_init ∈ TB := TB_of (tm2 (List.mem_of_getElem? (i := 138) rfl)) rfl
theorem wd_56 : Cond.initialized RX4 ∈ TB := TB_of (tm1 (List.mem_of_getElem? (i := 15) rfl)) rfl
theorem wd_57 : Cond.code yX4_init cX4_init 3 none ∈ TB := TB_of (tm2 (List.mem_of_getElem? (i := 139) rfl)) rfl
theorem nb_58 : Cond.fieldLinkNest RX1 7 "PadPolish$Surface" "wet" "I" "PadPolish" ∈ NB := NB_of (tm1 (List.mem_of_getElem? (i := 80) rfl)) rfl
theorem wd_59 : Cond.methodLink RX1 13 yX7_scratch ∈ TB := TB_of (tm3 (List.mem_of_getElem? (i := 106) rfl)) rfl
theorem wd_60 : Cond.instanceMethod yX7_scratch ∈ TB := TB_of (tm3 (List.mem_of_getElem? (i := 107) rfl)) rfl
theorem wd_61 : Cond.selects RX7 yX7_scratch yX7_scratch ∈ TB := TB_of (tm3 (List.mem_of_getElem? (i := 108) rfl)) rfl
theorem wd_62 : Cond.code yX7_scratch cX7_scratch 2 none ∈ TB := TB_of (tm3 (List.mem_of_getElem? (i := 109) rfl)) rfl
theorem wd_63 : Cond.methodLink RX1 17 yX10_leave ∈ TB := TB_of (tm4 (List.mem_of_getElem? (i := 147) rfl)) rfl
theorem wd_64 : Cond.methodLink RX1 22 yX4_mark ∈ TB := TB_of (tm4 (List.mem_of_getElem? (i := 148) rfl)) rfl
theorem wd_65 : Cond.sameMethod "PadPolish$Sliding" "PadPolish$Sliding" "mark" "(ILPadPolish$Trace;)I" ∈ TB := TB_of (tm4 (List.mem_of_getElem? (i := 143) rfl)) rfl
theorem wd_66 : Cond.superclass RX1 RX4 ∈ TB := TB_of (tm2 (List.mem_of_getElem? (i := 160) rfl)) rfl
theorem wd_67 : Cond.instanceMethod yX4_mark ∈ TB := TB_of (tm4 (List.mem_of_getElem? (i := 141) rfl)) rfl
theorem wd_68 : Cond.code yX4_mark cX4_mark 3 (some .int) ∈ TB := TB_of (tm4 (List.mem_of_getElem? (i := 154) rfl)) rfl
theorem wd_69 : Cond.methodLink RX2 1 objectInit ∈ TB := TB_of (tm2 (List.mem_of_getElem? (i := 143) rfl)) rfl
theorem wd_70 : Cond.instanceMethod objectInit ∈ TB := TB_of (tm1 (List.mem_of_getElem? (i := 30) rfl)) rfl
theorem wd_71 : Cond.fieldLink RX2 7 "PadPolish$Pass" "number" "I" ∈ TB := TB_of (tm2 (List.mem_of_getElem? (i := 144) rfl)) rfl
theorem wd_72 : Cond.fieldLink RX2 13 "PadPolish$Pass" "way" "[I" ∈ TB := TB_of (tm2 (List.mem_of_getElem? (i := 145) rfl)) rfl
theorem nb_73 : Cond.declares ⟨RX2, "touch", "(LPadPolish$Surface;I)V"⟩ ∈ NB := NB_of (tm3 (List.mem_of_getElem? (i := 69) rfl)) rfl
theorem wd_74 : Cond.methodLink RX2 17 ⟨RX2, "touch", "(LPadPolish$Surface;I)V"⟩ ∈ TB := TB_of (tm3 (List.mem_of_getElem? (i := 68) rfl)) rfl
theorem wd_75 : Cond.sameMethod "PadPolish$Pass" "PadPolish$Pass" "touch" "(LPadPolish$Surface;I)V" ∈ TB := TB_of (tm3 (List.mem_of_getElem? (i := 70) rfl)) rfl
theorem wd_76 : Cond.selects RX0 ⟨RX2, "touch", "(LPadPolish$Surface;I)V"⟩ yX0_touch ∈ TB := TB_of (tm3 (List.mem_of_getElem? (i := 71) rfl)) rfl
theorem wd_77 : Cond.instanceMethod yX0_touch ∈ TB := TB_of (tm3 (List.mem_of_getElem? (i := 72) rfl)) rfl
theorem wd_78 : Cond.code yX0_touch cX0_touch 3 none ∈ TB := TB_of (tm3 (List.mem_of_getElem? (i := 73) rfl)) rfl
theorem wd_79 : Cond.selects RX1 ⟨RX2, "touch", "(LPadPolish$Surface;I)V"⟩ yX4_touch ∈ TB := TB_of (tm3 (List.mem_of_getElem? (i := 96) rfl)) rfl
theorem wd_80 : Cond.instanceMethod yX4_touch ∈ TB := TB_of (tm3 (List.mem_of_getElem? (i := 97) rfl)) rfl
theorem wd_81 : Cond.code yX4_touch cX4_touch 3 none ∈ TB := TB_of (tm3 (List.mem_of_getElem? (i := 98) rfl)) rfl
theorem wd_82 : Cond.selects RX4 ⟨RX2, "touch", "(LPadPolish$Surface;I)V"⟩ yX4_touch ∈ TB := TB_of (tm3 (List.mem_of_getElem? (i := 135) rfl)) rfl
theorem wd_83 : Cond.selects RX5 ⟨RX2, "touch", "(LPadPolish$Surface;I)V"⟩ yX4_touch ∈ TB := TB_of (tm3 (List.mem_of_getElem? (i := 136) rfl)) rfl
theorem wd_84 : Cond.selects RX6 ⟨RX2, "touch", "(LPadPolish$Surface;I)V"⟩ yX0_touch ∈ TB := TB_of (tm3 (List.mem_of_getElem? (i := 137) rfl)) rfl
theorem wd_85 : Cond.methodLink RX2 21 yX10_leave ∈ TB := TB_of (tm4 (List.mem_of_getElem? (i := 158) rfl)) rfl
theorem wd_86 : Cond.methodLink RX3 3 objectInit ∈ TB := TB_of (tm1 (List.mem_of_getElem? (i := 170) rfl)) rfl
theorem wd_87 : Cond.fieldLink RX3 9 "PadPolish$Row" "items" "[I" ∈ TB := TB_of (tm1 (List.mem_of_getElem? (i := 171) rfl)) rfl
theorem wd_88 : Cond.fieldLink RX3 15 "PadPolish$Row" "length" "I" ∈ TB := TB_of (tm1 (List.mem_of_getElem? (i := 175) rfl)) rfl
theorem wd_89 : Cond.fieldLink RX3 19 "PadPolish$Row" "lane" "I" ∈ TB := TB_of (tm1 (List.mem_of_getElem? (i := 173) rfl)) rfl
theorem wd_90 : Cond.methodLink RX3 22 yJ7_fill_53178 ∈ TB := TB_of (tm2 (List.mem_of_getElem? (i := 13) rfl)) rfl
theorem wd_91 : Cond.static yJ7_fill_53178 ∈ TB := TB_of (tm2 (List.mem_of_getElem? (i := 14) rfl)) rfl
theorem wd_92 : Cond.initialized RJ7 ∈ TB := TB_of (tm1 (List.mem_of_getElem? (i := 11) rfl)) rfl
theorem wd_93 : Cond.code yJ7_fill_53178 cJ7_fill_53178 4 none ∈ TB := TB_of (tm2 (List.mem_of_getElem? (i := 15) rfl)) rfl
theorem nb_94 : Cond.fieldLinkNest RX3 28 "PadPolish$Surface" "film" "[I" "PadPolish" ∈ NB := NB_of (tm1 (List.mem_of_getElem? (i := 71) rfl)) rfl
theorem wd_95 : Cond.methodLink RX4 1 yX2_init ∈ TB := TB_of (tm2 (List.mem_of_getElem? (i := 140) rfl)) rfl
theorem wd_96 : Cond.methodLink RX4 7 yX4_takeFirst ∈ TB := TB_of (tm3 (List.mem_of_getElem? (i := 99) rfl)) rfl
theorem wd_97 : Cond.instanceMethod yX4_takeFirst ∈ TB := TB_of (tm3 (List.mem_of_getElem? (i := 100) rfl)) rfl
theorem wd_98 : Cond.selects RX4 yX4_takeFirst yX4_takeFirst ∈ TB := TB_of (tm3 (List.mem_of_getElem? (i := 101) rfl)) rfl
theorem wd_99 : Cond.code yX4_takeFirst cX4_takeFirst 3 none ∈ TB := TB_of (tm3 (List.mem_of_getElem? (i := 114) rfl)) rfl
theorem wd_100 : Cond.sameMethod "PadPolish$Sliding" "PadPolish$Sliding" "takeFirst" "(LPadPolish$Surface;I)V" ∈ TB := TB_of (tm3 (List.mem_of_getElem? (i := 102) rfl)) rfl
theorem wd_101 : Cond.selects RX1 yX4_takeFirst yX1_takeFirst ∈ TB := TB_of (tm3 (List.mem_of_getElem? (i := 103) rfl)) rfl
theorem wd_102 : Cond.instanceMethod yX1_takeFirst ∈ TB := TB_of (tm3 (List.mem_of_getElem? (i := 104) rfl)) rfl
theorem wd_103 : Cond.initialized RX1 ∈ TB := TB_of (tm1 (List.mem_of_getElem? (i := 17) rfl)) rfl
theorem wd_104 : Cond.code yX1_takeFirst cX1_takeFirst 3 none ∈ TB := TB_of (tm3 (List.mem_of_getElem? (i := 105) rfl)) rfl
theorem wd_105 : Cond.selects RX5 yX4_takeFirst yX5_takeFirst ∈ TB := TB_of (tm3 (List.mem_of_getElem? (i := 110) rfl)) rfl
theorem wd_106 : Cond.instanceMethod yX5_takeFirst ∈ TB := TB_of (tm3 (List.mem_of_getElem? (i := 111) rfl)) rfl
theorem wd_107 : Cond.initialized RX5 ∈ TB := TB_of (tm1 (List.mem_of_getElem? (i := 16) rfl)) rfl
theorem wd_108 : Cond.code yX5_takeFirst cX5_takeFirst 3 none ∈ TB := TB_of (tm3 (List.mem_of_getElem? (i := 112) rfl)) rfl
theorem nb_109 : Cond.fieldLinkNest RX4 13 "PadPolish$Surface" "wet" "I" "PadPolish" ∈ NB := NB_of (tm1 (List.mem_of_getElem? (i := 81) rfl)) rfl
theorem wd_110 : Cond.methodLink RX4 19 yX4_laid ∈ TB := TB_of (tm3 (List.mem_of_getElem? (i := 115) rfl)) rfl
theorem wd_111 : Cond.instanceMethod yX4_laid ∈ TB := TB_of (tm3 (List.mem_of_getElem? (i := 116) rfl)) rfl
theorem wd_112 : Cond.selects RX4 yX4_laid yX4_laid ∈ TB := TB_of (tm3 (List.mem_of_getElem? (i := 117) rfl)) rfl
theorem wd_113 : Cond.code yX4_laid cX4_laid 2 (some .int) ∈ TB := TB_of (tm3 (List.mem_of_getElem? (i := 125) rfl)) rfl
theorem wd_114 : Cond.sameMethod "PadPolish$Sliding" "PadPolish$Sliding" "laid" "(I)I" ∈ TB := TB_of (tm3 (List.mem_of_getElem? (i := 118) rfl)) rfl
theorem wd_115 : Cond.selects RX1 yX4_laid yX1_laid ∈ TB := TB_of (tm3 (List.mem_of_getElem? (i := 119) rfl)) rfl
theorem wd_116 : Cond.instanceMethod yX1_laid ∈ TB := TB_of (tm3 (List.mem_of_getElem? (i := 120) rfl)) rfl
theorem wd_117 : Cond.code yX1_laid cX1_laid 2 (some .int) ∈ TB := TB_of (tm3 (List.mem_of_getElem? (i := 121) rfl)) rfl
theorem wd_118 : Cond.selects RX5 yX4_laid yX5_laid ∈ TB := TB_of (tm3 (List.mem_of_getElem? (i := 122) rfl)) rfl
theorem wd_119 : Cond.instanceMethod yX5_laid ∈ TB := TB_of (tm3 (List.mem_of_getElem? (i := 123) rfl)) rfl
theorem wd_120 : Cond.code yX5_laid cX5_laid 2 (some .int) ∈ TB := TB_of (tm3 (List.mem_of_getElem? (i := 124) rfl)) rfl
theorem wd_121 : Cond.methodLink RX4 23 yX7_layFilm ∈ TB := TB_of (tm3 (List.mem_of_getElem? (i := 126) rfl)) rfl
theorem wd_122 : Cond.instanceMethod yX7_layFilm ∈ TB := TB_of (tm3 (List.mem_of_getElem? (i := 127) rfl)) rfl
theorem wd_123 : Cond.selects RX7 yX7_layFilm yX7_layFilm ∈ TB := TB_of (tm3 (List.mem_of_getElem? (i := 128) rfl)) rfl
theorem wd_124 : Cond.code yX7_layFilm cX7_layFilm 4 none ∈ TB := TB_of (tm3 (List.mem_of_getElem? (i := 129) rfl)) rfl
theorem wd_125 : Cond.methodLink RX4 27 yX7_layHaze ∈ TB := TB_of (tm3 (List.mem_of_getElem? (i := 130) rfl)) rfl
theorem wd_126 : Cond.instanceMethod yX7_layHaze ∈ TB := TB_of (tm3 (List.mem_of_getElem? (i := 131) rfl)) rfl
theorem wd_127 : Cond.selects RX7 yX7_layHaze yX7_layHaze ∈ TB := TB_of (tm3 (List.mem_of_getElem? (i := 132) rfl)) rfl
theorem wd_128 : Cond.code yX7_layHaze cX7_layHaze 2 none ∈ TB := TB_of (tm3 (List.mem_of_getElem? (i := 133) rfl)) rfl
theorem wd_129 : Cond.methodLink RX4 31 yX7_dryPad ∈ TB := TB_of (tm3 (List.mem_of_getElem? (i := 134) rfl)) rfl
theorem wd_130 : Cond.methodLink RX4 35 yX10_leave ∈ TB := TB_of (tm4 (List.mem_of_getElem? (i := 138) rfl)) rfl
theorem wd_131 : Cond.methodLink RX4 40 yX2_size ∈ TB := TB_of (tm4 (List.mem_of_getElem? (i := 139) rfl)) rfl
theorem wd_132 : Cond.superclass RX4 RX2 ∈ TB := TB_of (tm2 (List.mem_of_getElem? (i := 184) rfl)) rfl
theorem wd_133 : Cond.methodLink RX4 44 yX4_mark ∈ TB := TB_of (tm4 (List.mem_of_getElem? (i := 140) rfl)) rfl
theorem wd_134 : Cond.selects RX4 yX4_mark yX4_mark ∈ TB := TB_of (tm4 (List.mem_of_getElem? (i := 142) rfl)) rfl
theorem wd_135 : Cond.selects RX1 yX4_mark yX1_mark ∈ TB := TB_of (tm4 (List.mem_of_getElem? (i := 144) rfl)) rfl
theorem wd_136 : Cond.instanceMethod yX1_mark ∈ TB := TB_of (tm4 (List.mem_of_getElem? (i := 145) rfl)) rfl
theorem wd_137 : Cond.code yX1_mark cX1_mark 3 (some .int) ∈ TB := TB_of (tm4 (List.mem_of_getElem? (i := 146) rfl)) rfl
theorem wd_138 : Cond.selects RX5 yX4_mark yX5_mark ∈ TB := TB_of (tm4 (List.mem_of_getElem? (i := 149) rfl)) rfl
theorem wd_139 : Cond.instanceMethod yX5_mark ∈ TB := TB_of (tm4 (List.mem_of_getElem? (i := 150) rfl)) rfl
theorem wd_140 : Cond.code yX5_mark cX5_mark 3 (some .int) ∈ TB := TB_of (tm4 (List.mem_of_getElem? (i := 151) rfl)) rfl
theorem wd_141 : Cond.methodLink RX4 47 yX2_mark ∈ TB := TB_of (tm4 (List.mem_of_getElem? (i := 155) rfl)) rfl
theorem wd_142 : Cond.methodLink RX5 1 yX4_init ∈ TB := TB_of (tm2 (List.mem_of_getElem? (i := 137) rfl)) rfl
theorem nb_143 : Cond.fieldLinkNest RX5 7 "PadPolish$Surface" "soft" "[I" "PadPolish" ∈ NB := NB_of (tm1 (List.mem_of_getElem? (i := 74) rfl)) rfl
theorem wd_144 : Cond.methodLink RX5 13 yX7_takeSoft ∈ TB := TB_of (tm3 (List.mem_of_getElem? (i := 113) rfl)) rfl
theorem wd_145 : Cond.methodLink RX5 17 yX10_leave ∈ TB := TB_of (tm4 (List.mem_of_getElem? (i := 152) rfl)) rfl
theorem wd_146 : Cond.methodLink RX5 23 yX4_size ∈ TB := TB_of (tm4 (List.mem_of_getElem? (i := 163) rfl)) rfl
theorem wd_147 : Cond.sameMethod "PadPolish$Sliding" "PadPolish$Sliding" "size" "(ILPadPolish$Trace;)I" ∈ TB := TB_of (tm6 (List.mem_of_getElem? (i := 127) rfl)) rfl
theorem wd_148 : Cond.superclass RX5 RX4 ∈ TB := TB_of (tm2 (List.mem_of_getElem? (i := 151) rfl)) rfl
theorem wd_149 : Cond.instanceMethod yX4_size ∈ TB := TB_of (tm4 (List.mem_of_getElem? (i := 136) rfl)) rfl
theorem wd_150 : Cond.code yX4_size cX4_size 4 (some .int) ∈ TB := TB_of (tm4 (List.mem_of_getElem? (i := 137) rfl)) rfl
theorem wd_151 : Cond.methodLink RX5 27 yX4_mark ∈ TB := TB_of (tm4 (List.mem_of_getElem? (i := 153) rfl)) rfl
theorem wd_152 : Cond.methodLink RX6 1 yX0_init ∈ TB := TB_of (tm2 (List.mem_of_getElem? (i := 175) rfl)) rfl
theorem wd_153 : Cond.instanceMethod yX0_init ∈ TB := TB_of (tm2 (List.mem_of_getElem? (i := 164) rfl)) rfl
theorem wd_154 : Cond.code yX0_init cX0_init 3 none ∈ TB := TB_of (tm2 (List.mem_of_getElem? (i := 165) rfl)) rfl
theorem wd_155 : Cond.methodLink RX6 7 yX10_leave ∈ TB := TB_of (tm4 (List.mem_of_getElem? (i := 167) rfl)) rfl
theorem wd_156 : Cond.methodLink RX6 13 yX0_size ∈ TB := TB_of (tm4 (List.mem_of_getElem? (i := 168) rfl)) rfl
theorem wd_157 : Cond.superclass RX6 RX0 ∈ TB := TB_of (tm2 (List.mem_of_getElem? (i := 178) rfl)) rfl
theorem wd_158 : Cond.methodLink RX7 3 objectInit ∈ TB := TB_of (tm1 (List.mem_of_getElem? (i := 68) rfl)) rfl
theorem wd_159 : Cond.fieldLink RX7 9 "PadPolish$Surface" "film" "[I" ∈ TB := TB_of (tm1 (List.mem_of_getElem? (i := 69) rfl)) rfl
theorem wd_160 : Cond.fieldLink RX7 15 "PadPolish$Surface" "soft" "[I" ∈ TB := TB_of (tm1 (List.mem_of_getElem? (i := 73) rfl)) rfl
theorem wd_161 : Cond.fieldLink RX7 18 "PadPolish$Surface" "haze" "[I" ∈ TB := TB_of (tm1 (List.mem_of_getElem? (i := 77) rfl)) rfl
theorem wd_162 : Cond.methodLink RX7 21 arraycopyName ∈ TB := TB_of (tm3 (List.mem_of_getElem? (i := 21) rfl)) rfl
theorem wd_163 : Cond.native arraycopyName ∈ TB := TB_of (tm2 (List.mem_of_getElem? (i := 42) rfl)) rfl
theorem wd_164 : Cond.static arraycopyName ∈ TB := TB_of (tm2 (List.mem_of_getElem? (i := 41) rfl)) rfl
theorem wd_165 : Cond.initialized RJ10 ∈ TB := TB_of (tm1 (List.mem_of_getElem? (i := 12) rfl)) rfl
theorem wd_166 : Cond.fieldLink RX7 27 "PadPolish$Surface" "wet" "I" ∈ TB := TB_of (tm1 (List.mem_of_getElem? (i := 79) rfl)) rfl
theorem wd_167 : Cond.fieldLink RX7 31 "PadPolish$Surface" "oil" "I" ∈ TB := TB_of (tm1 (List.mem_of_getElem? (i := 83) rfl)) rfl
theorem wd_168 : Cond.fieldLink RX7 34 "PadPolish$Surface" "spent" "I" ∈ TB := TB_of (tm1 (List.mem_of_getElem? (i := 86) rfl)) rfl
theorem wd_169 : Cond.methodLink RX7 37 yJ7_fill_53178 ∈ TB := TB_of (tm2 (List.mem_of_getElem? (i := 72) rfl)) rfl
theorem wd_170 : Cond.methodLink RX7 43 Lib.Math.min.name ∈ TB := TB_of (tm3 (List.mem_of_getElem? (i := 35) rfl)) rfl
theorem wd_171 : Cond.methodLink RX7 49 Lib.Math.max.name ∈ TB := TB_of (tm3 (List.mem_of_getElem? (i := 86) rfl)) rfl
theorem wd_172 : Cond.static Lib.Math.max.name ∈ TB := TB_of (tm2 (List.mem_of_getElem? (i := 205) rfl)) rfl
theorem wd_173 : Cond.code Lib.Math.max.name Lib.Math.max.code 2 (some .int) ∈ TB := TB_of (tm2 (List.mem_of_getElem? (i := 206) rfl)) rfl
theorem wd_174 : Cond.methodLink RX7 52 yX7_takeHaze ∈ TB := TB_of (tm3 (List.mem_of_getElem? (i := 157) rfl)) rfl
theorem wd_175 : Cond.methodLink RX7 56 yX7_thinnest ∈ TB := TB_of (tm3 (List.mem_of_getElem? (i := 212) rfl)) rfl
theorem wd_176 : Cond.instanceMethod yX7_thinnest ∈ TB := TB_of (tm3 (List.mem_of_getElem? (i := 213) rfl)) rfl
theorem wd_177 : Cond.selects RX7 yX7_thinnest yX7_thinnest ∈ TB := TB_of (tm3 (List.mem_of_getElem? (i := 214) rfl)) rfl
theorem wd_178 : Cond.code yX7_thinnest cX7_thinnest 6 (some .int) ∈ TB := TB_of (tm3 (List.mem_of_getElem? (i := 215) rfl)) rfl
theorem wd_179 : Cond.methodLink RX8 1 objectInit ∈ TB := TB_of (tm1 (List.mem_of_getElem? (i := 121) rfl)) rfl
theorem wd_180 : Cond.classLink RX8 7 RX7 ∈ TB := TB_of (tm1 (List.mem_of_getElem? (i := 122) rfl)) rfl
theorem wd_181 : Cond.instantiable RX7 6 ∈ TB := TB_of (tm1 (List.mem_of_getElem? (i := 64) rfl)) rfl
theorem nb_182 : Cond.methodLinkNest RX8 9 yX7_init RX11 ∈ NB := NB_of (tm1 (List.mem_of_getElem? (i := 123) rfl)) rfl
theorem wd_183 : Cond.instanceMethod yX7_init ∈ TB := TB_of (tm1 (List.mem_of_getElem? (i := 66) rfl)) rfl
theorem wd_184 : Cond.code yX7_init cX7_init 1 none ∈ TB := TB_of (tm1 (List.mem_of_getElem? (i := 67) rfl)) rfl
theorem wd_185 : Cond.fieldLink RX8 10 "PadPolish$Table" "surface" "LPadPolish$Surface;" ∈ TB := TB_of (tm1 (List.mem_of_getElem? (i := 150) rfl)) rfl
theorem wd_186 : Cond.classLink RX8 16 RJx4a65c ∈ TB := TB_of (tm1 (List.mem_of_getElem? (i := 124) rfl)) rfl
theorem wd_187 : Cond.instantiable RJx4a65c 3 ∈ TB := TB_of (tm1 (List.mem_of_getElem? (i := 125) rfl)) rfl
theorem wd_188 : Cond.initialized RJx4a65c ∈ TB := TB_of (tm1 (List.mem_of_getElem? (i := 8) rfl)) rfl
theorem wd_189 : Cond.methodLink RX8 18 yJx4a65c_init_da8c8 ∈ TB := TB_of (tm1 (List.mem_of_getElem? (i := 126) rfl)) rfl
theorem wd_190 : Cond.instanceMethod yJx4a65c_init_da8c8 ∈ TB := TB_of (tm1 (List.mem_of_getElem? (i := 127) rfl)) rfl
theorem wd_191 : Cond.code yJx4a65c_init_da8c8 cJx4a65c_init_da8c8 1 none ∈ TB := TB_of (tm1 (List.mem_of_getElem? (i := 128) rfl)) rfl
theorem wd_192 : Cond.fieldLink RX8 19 "PadPolish$Table" "passes" "Ljava/util/ArrayList;" ∈ TB := TB_of (tm1 (List.mem_of_getElem? (i := 153) rfl)) rfl
theorem wd_193 : Cond.methodLink RX8 23 yX7_wipe ∈ TB := TB_of (tm2 (List.mem_of_getElem? (i := 68) rfl)) rfl
theorem wd_194 : Cond.instanceMethod yX7_wipe ∈ TB := TB_of (tm2 (List.mem_of_getElem? (i := 69) rfl)) rfl
theorem wd_195 : Cond.selects RX7 yX7_wipe yX7_wipe ∈ TB := TB_of (tm2 (List.mem_of_getElem? (i := 70) rfl)) rfl
theorem wd_196 : Cond.code yX7_wipe cX7_wipe 1 none ∈ TB := TB_of (tm2 (List.mem_of_getElem? (i := 71) rfl)) rfl
theorem wd_197 : Cond.fieldLink RX8 26 "PadPolish$Table" "sink" "I" ∈ TB := TB_of (tm1 (List.mem_of_getElem? (i := 156) rfl)) rfl
theorem wd_198 : Cond.methodLink RX8 30 yX7_become ∈ TB := TB_of (tm4 (List.mem_of_getElem? (i := 81) rfl)) rfl
theorem wd_199 : Cond.instanceMethod yX7_become ∈ TB := TB_of (tm3 (List.mem_of_getElem? (i := 18) rfl)) rfl
theorem wd_200 : Cond.selects RX7 yX7_become yX7_become ∈ TB := TB_of (tm3 (List.mem_of_getElem? (i := 19) rfl)) rfl
theorem wd_201 : Cond.code yX7_become cX7_become 2 none ∈ TB := TB_of (tm3 (List.mem_of_getElem? (i := 20) rfl)) rfl
theorem wd_202 : Cond.methodLink RX8 34 yJx4a65c_size_8abf5 ∈ TB := TB_of (tm3 (List.mem_of_getElem? (i := 170) rfl)) rfl
theorem wd_203 : Cond.instanceMethod yJx4a65c_size_8abf5 ∈ TB := TB_of (tm3 (List.mem_of_getElem? (i := 5) rfl)) rfl
theorem wd_204 : Cond.selects RJx4a65c yJx4a65c_size_8abf5 yJx4a65c_size_8abf5 ∈ TB := TB_of (tm3 (List.mem_of_getElem? (i := 6) rfl)) rfl
theorem wd_205 : Cond.code yJx4a65c_size_8abf5 cJx4a65c_size_8abf5 1 (some .int) ∈ TB := TB_of (tm3 (List.mem_of_getElem? (i := 7) rfl)) rfl
theorem wd_206 : Cond.methodLink RX8 38 yJx4a65c_get_915e3 ∈ TB := TB_of (tm3 (List.mem_of_getElem? (i := 171) rfl)) rfl
theorem wd_207 : Cond.instanceMethod yJx4a65c_get_915e3 ∈ TB := TB_of (tm3 (List.mem_of_getElem? (i := 45) rfl)) rfl
theorem wd_208 : Cond.selects RJx4a65c yJx4a65c_get_915e3 yJx4a65c_get_915e3 ∈ TB := TB_of (tm3 (List.mem_of_getElem? (i := 46) rfl)) rfl
theorem wd_209 : Cond.code yJx4a65c_get_915e3 cJx4a65c_get_915e3 2 (some (.object "java/lang/Object")) ∈ TB := TB_of (tm3 (List.mem_of_getElem? (i := 47) rfl)) rfl
theorem wd_210 : Cond.classLink RX8 42 RX2 ∈ TB := TB_of (tm3 (List.mem_of_getElem? (i := 172) rfl)) rfl
theorem wd_211 : Cond.methodLink RX8 44 yX2_goAlong ∈ TB := TB_of (tm3 (List.mem_of_getElem? (i := 203) rfl)) rfl
theorem wd_212 : Cond.sameMethod "PadPolish$Pass" "PadPolish$Pass" "goAlong" "(LPadPolish$Surface;)V" ∈ TB := TB_of (tm3 (List.mem_of_getElem? (i := 61) rfl)) rfl
theorem wd_213 : Cond.selects RX0 yX2_goAlong yX2_goAlong ∈ TB := TB_of (tm3 (List.mem_of_getElem? (i := 62) rfl)) rfl
theorem wd_214 : Cond.instanceMethod yX2_goAlong ∈ TB := TB_of (tm3 (List.mem_of_getElem? (i := 60) rfl)) rfl
theorem wd_215 : Cond.code yX2_goAlong cX2_goAlong 6 none ∈ TB := TB_of (tm3 (List.mem_of_getElem? (i := 67) rfl)) rfl
theorem wd_216 : Cond.selects RX1 yX2_goAlong yX2_goAlong ∈ TB := TB_of (tm3 (List.mem_of_getElem? (i := 63) rfl)) rfl
theorem wd_217 : Cond.selects RX4 yX2_goAlong yX2_goAlong ∈ TB := TB_of (tm3 (List.mem_of_getElem? (i := 64) rfl)) rfl
theorem wd_218 : Cond.selects RX5 yX2_goAlong yX2_goAlong ∈ TB := TB_of (tm3 (List.mem_of_getElem? (i := 65) rfl)) rfl
theorem wd_219 : Cond.selects RX6 yX2_goAlong yX2_goAlong ∈ TB := TB_of (tm3 (List.mem_of_getElem? (i := 66) rfl)) rfl
theorem wd_220 : Cond.methodLink RX8 47 yX2_cells ∈ TB := TB_of (tm3 (List.mem_of_getElem? (i := 173) rfl)) rfl
theorem wd_221 : Cond.sameMethod "PadPolish$Pass" "PadPolish$Pass" "cells" "()I" ∈ TB := TB_of (tm3 (List.mem_of_getElem? (i := 175) rfl)) rfl
theorem wd_222 : Cond.selects RX0 yX2_cells yX2_cells ∈ TB := TB_of (tm3 (List.mem_of_getElem? (i := 176) rfl)) rfl
theorem wd_223 : Cond.instanceMethod yX2_cells ∈ TB := TB_of (tm3 (List.mem_of_getElem? (i := 174) rfl)) rfl
theorem wd_224 : Cond.code yX2_cells cX2_cells 6 (some .int) ∈ TB := TB_of (tm3 (List.mem_of_getElem? (i := 181) rfl)) rfl
theorem wd_225 : Cond.selects RX1 yX2_cells yX2_cells ∈ TB := TB_of (tm3 (List.mem_of_getElem? (i := 177) rfl)) rfl
theorem wd_226 : Cond.selects RX4 yX2_cells yX2_cells ∈ TB := TB_of (tm3 (List.mem_of_getElem? (i := 178) rfl)) rfl
theorem wd_227 : Cond.selects RX5 yX2_cells yX2_cells ∈ TB := TB_of (tm3 (List.mem_of_getElem? (i := 179) rfl)) rfl
theorem wd_228 : Cond.selects RX6 yX2_cells yX2_cells ∈ TB := TB_of (tm3 (List.mem_of_getElem? (i := 180) rfl)) rfl
theorem wd_229 : Cond.methodLink RX9 3 objectInit ∈ TB := TB_of (tm1 (List.mem_of_getElem? (i := 39) rfl)) rfl
theorem wd_230 : Cond.fieldLink RX9 9 "PadPolish$Tape" "bytes" "[I" ∈ TB := TB_of (tm1 (List.mem_of_getElem? (i := 40) rfl)) rfl
theorem wd_231 : Cond.fieldLink RX9 15 "PadPolish$Tape" "way" "[I" ∈ TB := TB_of (tm1 (List.mem_of_getElem? (i := 41) rfl)) rfl
theorem wd_232 : Cond.fieldLink RX9 18 "PadPolish$Tape" "length" "I" ∈ TB := TB_of (tm1 (List.mem_of_getElem? (i := 42) rfl)) rfl
theorem wd_233 : Cond.fieldLink RX9 22 "PadPolish$Tape" "at" "I" ∈ TB := TB_of (tm1 (List.mem_of_getElem? (i := 44) rfl)) rfl
theorem wd_234 : Cond.methodLink RX9 25 yX8_begin ∈ TB := TB_of (tm2 (List.mem_of_getElem? (i := 64) rfl)) rfl
theorem wd_235 : Cond.instanceMethod yX8_begin ∈ TB := TB_of (tm2 (List.mem_of_getElem? (i := 65) rfl)) rfl
theorem wd_236 : Cond.selects RX8 yX8_begin yX8_begin ∈ TB := TB_of (tm2 (List.mem_of_getElem? (i := 66) rfl)) rfl
theorem wd_237 : Cond.initialized RX8 ∈ TB := TB_of (tm1 (List.mem_of_getElem? (i := 5) rfl)) rfl
theorem wd_238 : Cond.code yX8_begin cX8_begin 1 none ∈ TB := TB_of (tm2 (List.mem_of_getElem? (i := 67) rfl)) rfl
theorem wd_239 : Cond.methodLink RX9 30 yX9_readLaw ∈ TB := TB_of (tm2 (List.mem_of_getElem? (i := 73) rfl)) rfl
theorem wd_240 : Cond.instanceMethod yX9_readLaw ∈ TB := TB_of (tm2 (List.mem_of_getElem? (i := 75) rfl)) rfl
theorem wd_241 : Cond.selects RX9 yX9_readLaw yX9_readLaw ∈ TB := TB_of (List.mem_append_left _ (List.mem_of_getElem? (i := 2) rfl)) rfl
theorem wd_242 : Cond.initialized RX9 ∈ TB := TB_of (tm1 (List.mem_of_getElem? (i := 2) rfl)) rfl
theorem wd_243 : Cond.code yX9_readLaw cX9_readLaw 2 (some .boolean) ∈ TB := TB_of (tm2 (List.mem_of_getElem? (i := 76) rfl)) rfl
theorem wd_244 : Cond.methodLink RX9 34 yX9_readCells ∈ TB := TB_of (tm2 (List.mem_of_getElem? (i := 97) rfl)) rfl
theorem wd_245 : Cond.instanceMethod yX9_readCells ∈ TB := TB_of (tm2 (List.mem_of_getElem? (i := 99) rfl)) rfl
theorem wd_246 : Cond.selects RX9 yX9_readCells yX9_readCells ∈ TB := TB_of (List.mem_append_left _ (List.mem_of_getElem? (i := 8) rfl)) rfl
theorem wd_247 : Cond.code yX9_readCells cX9_readCells 7 (some .boolean) ∈ TB := TB_of (tm2 (List.mem_of_getElem? (i := 100) rfl)) rfl
theorem wd_248 : Cond.methodLink RX9 37 yX9_readPasses ∈ TB := TB_of (tm2 (List.mem_of_getElem? (i := 101) rfl)) rfl
theorem wd_249 : Cond.instanceMethod yX9_readPasses ∈ TB := TB_of (tm2 (List.mem_of_getElem? (i := 103) rfl)) rfl
theorem wd_250 : Cond.selects RX9 yX9_readPasses yX9_readPasses ∈ TB := TB_of (List.mem_append_left _ (List.mem_of_getElem? (i := 9) rfl)) rfl
theorem wd_251 : Cond.code yX9_readPasses cX9_readPasses 5 (some .boolean) ∈ TB := TB_of (tm2 (List.mem_of_getElem? (i := 104) rfl)) rfl
theorem wd_252 : Cond.methodLink RX9 40 yX9_readSign ∈ TB := TB_of (tm2 (List.mem_of_getElem? (i := 77) rfl)) rfl
theorem wd_253 : Cond.instanceMethod yX9_readSign ∈ TB := TB_of (tm2 (List.mem_of_getElem? (i := 79) rfl)) rfl
theorem wd_254 : Cond.selects RX9 yX9_readSign yX9_readSign ∈ TB := TB_of (List.mem_append_left _ (List.mem_of_getElem? (i := 3) rfl)) rfl
theorem wd_255 : Cond.code yX9_readSign cX9_readSign 2 (some .boolean) ∈ TB := TB_of (tm2 (List.mem_of_getElem? (i := 80) rfl)) rfl
theorem wd_256 : Cond.methodLink RX9 44 yX9_readNumber ∈ TB := TB_of (tm2 (List.mem_of_getElem? (i := 89) rfl)) rfl
theorem wd_257 : Cond.instanceMethod yX9_readNumber ∈ TB := TB_of (tm2 (List.mem_of_getElem? (i := 91) rfl)) rfl
theorem wd_258 : Cond.selects RX9 yX9_readNumber yX9_readNumber ∈ TB := TB_of (List.mem_append_left _ (List.mem_of_getElem? (i := 6) rfl)) rfl
theorem wd_259 : Cond.code yX9_readNumber cX9_readNumber 4 (some .int) ∈ TB := TB_of (tm2 (List.mem_of_getElem? (i := 92) rfl)) rfl
theorem nb_260 : Cond.fieldLinkNest RX9 48 "PadPolish$Table" "sink" "I" "PadPolish" ∈ NB := NB_of (tm1 (List.mem_of_getElem? (i := 157) rfl)) rfl
theorem nb_261 : Cond.fieldLinkNest RX9 51 "PadPolish$Table" "surface" "LPadPolish$Surface;" "PadPolish" ∈ NB := NB_of (tm1 (List.mem_of_getElem? (i := 151) rfl)) rfl
theorem nb_262 : Cond.fieldLinkNest RX9 55 "PadPolish$Surface" "oil" "I" "PadPolish" ∈ NB := NB_of (tm1 (List.mem_of_getElem? (i := 84) rfl)) rfl
theorem wd_263 : Cond.methodLink RX9 60 yX9_next ∈ TB := TB_of (tm2 (List.mem_of_getElem? (i := 81) rfl)) rfl
theorem wd_264 : Cond.instanceMethod yX9_next ∈ TB := TB_of (tm2 (List.mem_of_getElem? (i := 83) rfl)) rfl
theorem wd_265 : Cond.selects RX9 yX9_next yX9_next ∈ TB := TB_of (List.mem_append_left _ (List.mem_of_getElem? (i := 4) rfl)) rfl
theorem wd_266 : Cond.code yX9_next cX9_next 1 (some .int) ∈ TB := TB_of (tm2 (List.mem_of_getElem? (i := 84) rfl)) rfl
theorem wd_267 : Cond.methodLink RX9 64 yX9_refuse ∈ TB := TB_of (tm2 (List.mem_of_getElem? (i := 85) rfl)) rfl
theorem wd_268 : Cond.instanceMethod yX9_refuse ∈ TB := TB_of (tm2 (List.mem_of_getElem? (i := 87) rfl)) rfl
theorem wd_269 : Cond.selects RX9 yX9_refuse yX9_refuse ∈ TB := TB_of (List.mem_append_left _ (List.mem_of_getElem? (i := 5) rfl)) rfl
theorem wd_270 : Cond.code yX9_refuse cX9_refuse 2 (some .boolean) ∈ TB := TB_of (tm2 (List.mem_of_getElem? (i := 88) rfl)) rfl
theorem nb_271 : Cond.fieldLinkNest RX9 68 "PadPolish$Surface" "film" "[I" "PadPolish" ∈ NB := NB_of (tm1 (List.mem_of_getElem? (i := 70) rfl)) rfl
theorem wd_272 : Cond.methodLink RX9 71 yX9_isSort ∈ TB := TB_of (tm2 (List.mem_of_getElem? (i := 105) rfl)) rfl
theorem wd_273 : Cond.static yX9_isSort ∈ TB := TB_of (tm2 (List.mem_of_getElem? (i := 106) rfl)) rfl
theorem wd_274 : Cond.code yX9_isSort cX9_isSort 1 (some .boolean) ∈ TB := TB_of (tm2 (List.mem_of_getElem? (i := 107) rfl)) rfl
theorem wd_275 : Cond.methodLink RX9 74 yX9_readWay ∈ TB := TB_of (tm2 (List.mem_of_getElem? (i := 108) rfl)) rfl
theorem wd_276 : Cond.instanceMethod yX9_readWay ∈ TB := TB_of (tm2 (List.mem_of_getElem? (i := 110) rfl)) rfl
theorem wd_277 : Cond.selects RX9 yX9_readWay yX9_readWay ∈ TB := TB_of (List.mem_append_left _ (List.mem_of_getElem? (i := 10) rfl)) rfl
theorem wd_278 : Cond.code yX9_readWay cX9_readWay 3 (some .int) ∈ TB := TB_of (tm2 (List.mem_of_getElem? (i := 111) rfl)) rfl
theorem nb_279 : Cond.fieldLinkNest RX9 77 "PadPolish$Table" "passes" "Ljava/util/ArrayList;" "PadPolish" ∈ NB := NB_of (tm1 (List.mem_of_getElem? (i := 154) rfl)) rfl
theorem wd_280 : Cond.methodLink RX9 81 yJ7_copyOf_59c91 ∈ TB := TB_of (tm2 (List.mem_of_getElem? (i := 115) rfl)) rfl
theorem wd_281 : Cond.static yJ7_copyOf_59c91 ∈ TB := TB_of (tm2 (List.mem_of_getElem? (i := 116) rfl)) rfl
theorem wd_282 : Cond.code yJ7_copyOf_59c91 cJ7_copyOf_59c91 3 (some (.array .int)) ∈ TB := TB_of (tm2 (List.mem_of_getElem? (i := 117) rfl)) rfl
theorem wd_283 : Cond.methodLink RX9 87 yX9_newPass ∈ TB := TB_of (tm2 (List.mem_of_getElem? (i := 129) rfl)) rfl
theorem wd_284 : Cond.static yX9_newPass ∈ TB := TB_of (tm2 (List.mem_of_getElem? (i := 130) rfl)) rfl
theorem wd_285 : Cond.code yX9_newPass cX9_newPass 3 (some (.object "PadPolish$Pass")) ∈ TB := TB_of (tm2 (List.mem_of_getElem? (i := 131) rfl)) rfl
theorem wd_286 : Cond.methodLink RX9 91 yJx4a65c_add_9ea2d ∈ TB := TB_of (tm2 (List.mem_of_getElem? (i := 185) rfl)) rfl
theorem wd_287 : Cond.instanceMethod yJx4a65c_add_9ea2d ∈ TB := TB_of (tm2 (List.mem_of_getElem? (i := 186) rfl)) rfl
theorem wd_288 : Cond.selects RJx4a65c yJx4a65c_add_9ea2d yJx4a65c_add_9ea2d ∈ TB := TB_of (tm2 (List.mem_of_getElem? (i := 187) rfl)) rfl
theorem wd_289 : Cond.code yJx4a65c_add_9ea2d cJx4a65c_add_9ea2d 2 (some .boolean) ∈ TB := TB_of (tm2 (List.mem_of_getElem? (i := 188) rfl)) rfl
theorem wd_290 : Cond.methodLink RX9 97 yX9_beside ∈ TB := TB_of (tm2 (List.mem_of_getElem? (i := 112) rfl)) rfl
theorem wd_291 : Cond.static yX9_beside ∈ TB := TB_of (tm2 (List.mem_of_getElem? (i := 113) rfl)) rfl
theorem wd_292 : Cond.code yX9_beside cX9_beside 4 (some .int) ∈ TB := TB_of (tm2 (List.mem_of_getElem? (i := 114) rfl)) rfl
theorem wd_293 : Cond.classLink RX9 101 RX5 ∈ TB := TB_of (tm2 (List.mem_of_getElem? (i := 132) rfl)) rfl
theorem wd_294 : Cond.instantiable RX5 2 ∈ TB := TB_of (tm2 (List.mem_of_getElem? (i := 133) rfl)) rfl
theorem wd_295 : Cond.methodLink RX9 103 yX5_init ∈ TB := TB_of (tm2 (List.mem_of_getElem? (i := 134) rfl)) rfl
theorem wd_296 : Cond.instanceMethod yX5_init ∈ TB := TB_of (tm2 (List.mem_of_getElem? (i := 135) rfl)) rfl
theorem wd_297 : Cond.code yX5_init cX5_init 3 none ∈ TB := TB_of (tm2 (List.mem_of_getElem? (i := 136) rfl)) rfl
theorem wd_298 : Cond.classLink RX9 106 RX1 ∈ TB := TB_of (tm2 (List.mem_of_getElem? (i := 152) rfl)) rfl
theorem wd_299 : Cond.instantiable RX1 2 ∈ TB := TB_of (tm2 (List.mem_of_getElem? (i := 153) rfl)) rfl
theorem wd_300 : Cond.methodLink RX9 108 yX1_init ∈ TB := TB_of (tm2 (List.mem_of_getElem? (i := 154) rfl)) rfl
theorem wd_301 : Cond.instanceMethod yX1_init ∈ TB := TB_of (tm2 (List.mem_of_getElem? (i := 155) rfl)) rfl
theorem wd_302 : Cond.code yX1_init cX1_init 3 none ∈ TB := TB_of (tm2 (List.mem_of_getElem? (i := 156) rfl)) rfl
theorem wd_303 : Cond.classLink RX9 109 RX0 ∈ TB := TB_of (tm2 (List.mem_of_getElem? (i := 161) rfl)) rfl
theorem wd_304 : Cond.instantiable RX0 2 ∈ TB := TB_of (tm2 (List.mem_of_getElem? (i := 162) rfl)) rfl
theorem wd_305 : Cond.methodLink RX9 111 yX0_init ∈ TB := TB_of (tm2 (List.mem_of_getElem? (i := 163) rfl)) rfl
theorem wd_306 : Cond.classLink RX9 112 RX6 ∈ TB := TB_of (tm2 (List.mem_of_getElem? (i := 170) rfl)) rfl
theorem wd_307 : Cond.instantiable RX6 2 ∈ TB := TB_of (tm2 (List.mem_of_getElem? (i := 171) rfl)) rfl
theorem wd_308 : Cond.methodLink RX9 114 yX6_init ∈ TB := TB_of (tm2 (List.mem_of_getElem? (i := 172) rfl)) rfl
theorem wd_309 : Cond.instanceMethod yX6_init ∈ TB := TB_of (tm2 (List.mem_of_getElem? (i := 173) rfl)) rfl
theorem wd_310 : Cond.code yX6_init cX6_init 3 none ∈ TB := TB_of (tm2 (List.mem_of_getElem? (i := 174) rfl)) rfl
theorem wd_311 : Cond.classLink RX9 115 RX4 ∈ TB := TB_of (tm2 (List.mem_of_getElem? (i := 179) rfl)) rfl
theorem wd_312 : Cond.instantiable RX4 2 ∈ TB := TB_of (tm2 (List.mem_of_getElem? (i := 180) rfl)) rfl
theorem wd_313 : Cond.methodLink RX9 117 yX4_init ∈ TB := TB_of (tm2 (List.mem_of_getElem? (i := 181) rfl)) rfl
theorem wd_314 : Cond.methodLink RX9 118 yX9_isFigure ∈ TB := TB_of (tm2 (List.mem_of_getElem? (i := 93) rfl)) rfl
theorem wd_315 : Cond.instanceMethod yX9_isFigure ∈ TB := TB_of (tm2 (List.mem_of_getElem? (i := 95) rfl)) rfl
theorem wd_316 : Cond.selects RX9 yX9_isFigure yX9_isFigure ∈ TB := TB_of (List.mem_append_left _ (List.mem_of_getElem? (i := 7) rfl)) rfl
theorem wd_317 : Cond.code yX9_isFigure cX9_isFigure 2 (some .boolean) ∈ TB := TB_of (tm2 (List.mem_of_getElem? (i := 96) rfl)) rfl
theorem wd_318 : Cond.fieldLink RX9 121 "PadPolish$Tape" "faultNumber" "I" ∈ TB := TB_of (tm1 (List.mem_of_getElem? (i := 47) rfl)) rfl
theorem wd_319 : Cond.methodLink RX10 3 objectInit ∈ TB := TB_of (tm1 (List.mem_of_getElem? (i := 107) rfl)) rfl
theorem wd_320 : Cond.fieldLink RX10 9 "PadPolish$Trace" "numbers" "[I" ∈ TB := TB_of (tm1 (List.mem_of_getElem? (i := 108) rfl)) rfl
theorem wd_321 : Cond.fieldLink RX10 15 "PadPolish$Trace" "length" "I" ∈ TB := TB_of (tm1 (List.mem_of_getElem? (i := 110) rfl)) rfl
theorem wd_322 : Cond.methodLink RX11 1 objectInit ∈ TB := TB_of (tm1 (List.mem_of_getElem? (i := 29) rfl)) rfl
theorem wd_323 : Cond.classLink RX11 9 RX3 ∈ TB := TB_of (tm1 (List.mem_of_getElem? (i := 32) rfl)) rfl
theorem wd_324 : Cond.fieldLink RX11 11 "PadPolish" "rows" "[LPadPolish$Row;" ∈ TB := TB_of (tm1 (List.mem_of_getElem? (i := 184) rfl)) rfl
theorem wd_325 : Cond.classLink RX11 15 RX9 ∈ TB := TB_of (tm1 (List.mem_of_getElem? (i := 34) rfl)) rfl
theorem wd_326 : Cond.instantiable RX9 5 ∈ TB := TB_of (tm1 (List.mem_of_getElem? (i := 35) rfl)) rfl
theorem nb_327 : Cond.methodLinkNest RX11 17 yX9_init RX11 ∈ NB := NB_of (tm1 (List.mem_of_getElem? (i := 36) rfl)) rfl
theorem wd_328 : Cond.instanceMethod yX9_init ∈ TB := TB_of (tm1 (List.mem_of_getElem? (i := 37) rfl)) rfl
theorem wd_329 : Cond.code yX9_init cX9_init 1 none ∈ TB := TB_of (tm1 (List.mem_of_getElem? (i := 38) rfl)) rfl
theorem wd_330 : Cond.fieldLink RX11 18 "PadPolish" "tape" "LPadPolish$Tape;" ∈ TB := TB_of (tm1 (List.mem_of_getElem? (i := 185) rfl)) rfl
theorem wd_331 : Cond.classLink RX11 22 RX8 ∈ TB := TB_of (tm1 (List.mem_of_getElem? (i := 60) rfl)) rfl
theorem wd_332 : Cond.fieldLink RX11 24 "PadPolish" "images" "[LPadPolish$Table;" ∈ TB := TB_of (tm1 (List.mem_of_getElem? (i := 186) rfl)) rfl
theorem wd_333 : Cond.fieldLink RX11 28 "PadPolish" "imageKept" "[Z" ∈ TB := TB_of (tm1 (List.mem_of_getElem? (i := 187) rfl)) rfl
theorem wd_334 : Cond.classLink RX11 32 RX7 ∈ TB := TB_of (tm1 (List.mem_of_getElem? (i := 62) rfl)) rfl
theorem wd_335 : Cond.fieldLink RX11 34 "PadPolish" "acts" "[LPadPolish$Surface;" ∈ TB := TB_of (tm1 (List.mem_of_getElem? (i := 188) rfl)) rfl
theorem nb_336 : Cond.methodLinkNest RX11 38 yX7_init RX11 ∈ NB := NB_of (tm1 (List.mem_of_getElem? (i := 65) rfl)) rfl
theorem wd_337 : Cond.fieldLink RX11 39 "PadPolish" "guess" "LPadPolish$Surface;" ∈ TB := TB_of (tm1 (List.mem_of_getElem? (i := 189) rfl)) rfl
theorem wd_338 : Cond.classLink RX11 43 RX10 ∈ TB := TB_of (tm1 (List.mem_of_getElem? (i := 102) rfl)) rfl
theorem wd_339 : Cond.instantiable RX10 2 ∈ TB := TB_of (tm1 (List.mem_of_getElem? (i := 103) rfl)) rfl
theorem nb_340 : Cond.methodLinkNest RX11 45 yX10_init RX11 ∈ NB := NB_of (tm1 (List.mem_of_getElem? (i := 104) rfl)) rfl
theorem wd_341 : Cond.instanceMethod yX10_init ∈ TB := TB_of (tm1 (List.mem_of_getElem? (i := 105) rfl)) rfl
theorem wd_342 : Cond.code yX10_init cX10_init 1 none ∈ TB := TB_of (tm1 (List.mem_of_getElem? (i := 106) rfl)) rfl
theorem wd_343 : Cond.fieldLink RX11 46 "PadPolish" "left" "LPadPolish$Trace;" ∈ TB := TB_of (tm1 (List.mem_of_getElem? (i := 190) rfl)) rfl
theorem wd_344 : Cond.fieldLink RX11 50 "PadPolish" "triedOrder" "[I" ∈ TB := TB_of (tm1 (List.mem_of_getElem? (i := 191) rfl)) rfl
theorem wd_345 : Cond.fieldLink RX11 54 "PadPolish" "bestOrder" "[I" ∈ TB := TB_of (tm1 (List.mem_of_getElem? (i := 192) rfl)) rfl
theorem wd_346 : Cond.instantiable RX8 3 ∈ TB := TB_of (tm1 (List.mem_of_getElem? (i := 117) rfl)) rfl
theorem nb_347 : Cond.methodLinkNest RX11 57 yX8_init RX11 ∈ NB := NB_of (tm1 (List.mem_of_getElem? (i := 118) rfl)) rfl
theorem wd_348 : Cond.instanceMethod yX8_init ∈ TB := TB_of (tm1 (List.mem_of_getElem? (i := 119) rfl)) rfl
theorem wd_349 : Cond.code yX8_init cX8_init 1 none ∈ TB := TB_of (tm1 (List.mem_of_getElem? (i := 120) rfl)) rfl
theorem wd_350 : Cond.fieldLink RX11 58 "PadPolish" "current" "LPadPolish$Table;" ∈ TB := TB_of (tm1 (List.mem_of_getElem? (i := 193) rfl)) rfl
theorem wd_351 : Cond.fieldLink RX11 62 "PadPolish" "draft" "LPadPolish$Table;" ∈ TB := TB_of (tm1 (List.mem_of_getElem? (i := 194) rfl)) rfl
theorem wd_352 : Cond.instantiable RX3 3 ∈ TB := TB_of (tm1 (List.mem_of_getElem? (i := 166) rfl)) rfl
theorem wd_353 : Cond.initialized RX3 ∈ TB := TB_of (tm1 (List.mem_of_getElem? (i := 9) rfl)) rfl
theorem nb_354 : Cond.methodLinkNest RX11 65 yX3_init RX11 ∈ NB := NB_of (tm1 (List.mem_of_getElem? (i := 167) rfl)) rfl
theorem wd_355 : Cond.instanceMethod yX3_init ∈ TB := TB_of (tm1 (List.mem_of_getElem? (i := 168) rfl)) rfl
theorem wd_356 : Cond.code yX3_init cX3_init 1 none ∈ TB := TB_of (tm1 (List.mem_of_getElem? (i := 169) rfl)) rfl
theorem wd_357 : Cond.methodLink RX11 66 yX11_isRow ∈ TB := TB_of (tm1 (List.mem_of_getElem? (i := 237) rfl)) rfl
theorem wd_358 : Cond.static yX11_isRow ∈ TB := TB_of (tm1 (List.mem_of_getElem? (i := 238) rfl)) rfl
theorem wd_359 : Cond.initialized RX11 ∈ TB := TB_of (tm1 (List.mem_of_getElem? (i := 1) rfl)) rfl
theorem wd_360 : Cond.code yX11_isRow cX11_isRow 1 (some .boolean) ∈ TB := TB_of (tm1 (List.mem_of_getElem? (i := 239) rfl)) rfl
theorem wd_361 : Cond.methodLink RX11 70 yX11_isWithin ∈ TB := TB_of (tm2 (List.mem_of_getElem? (i := 0) rfl)) rfl
theorem wd_362 : Cond.static yX11_isWithin ∈ TB := TB_of (tm2 (List.mem_of_getElem? (i := 1) rfl)) rfl
theorem wd_363 : Cond.code yX11_isWithin cX11_isWithin 3 (some .boolean) ∈ TB := TB_of (tm2 (List.mem_of_getElem? (i := 2) rfl)) rfl
theorem wd_364 : Cond.constant RX11 74 (Int32.ofInt (-1000001)) ∈ TB := TB_of (tm2 (List.mem_of_getElem? (i := 3) rfl)) rfl
theorem wd_365 : Cond.methodLink RX11 75 yX11_found ∈ TB := TB_of (tm2 (List.mem_of_getElem? (i := 4) rfl)) rfl
theorem wd_366 : Cond.instanceMethod yX11_found ∈ TB := TB_of (tm2 (List.mem_of_getElem? (i := 6) rfl)) rfl
theorem wd_367 : Cond.selects RX11 yX11_found yX11_found ∈ TB := TB_of (List.mem_append_left _ (List.mem_of_getElem? (i := 0) rfl)) rfl
theorem wd_368 : Cond.code yX11_found cX11_found 2 (some .int) ∈ TB := TB_of (tm2 (List.mem_of_getElem? (i := 7) rfl)) rfl
theorem wd_369 : Cond.methodLink RX11 79 yX3_begin ∈ TB := TB_of (tm2 (List.mem_of_getElem? (i := 9) rfl)) rfl
theorem wd_370 : Cond.instanceMethod yX3_begin ∈ TB := TB_of (tm2 (List.mem_of_getElem? (i := 10) rfl)) rfl
theorem wd_371 : Cond.selects RX3 yX3_begin yX3_begin ∈ TB := TB_of (tm2 (List.mem_of_getElem? (i := 11) rfl)) rfl
theorem wd_372 : Cond.code yX3_begin cX3_begin 3 none ∈ TB := TB_of (tm2 (List.mem_of_getElem? (i := 12) rfl)) rfl
theorem wd_373 : Cond.methodLink RX11 83 yX11_unfound ∈ TB := TB_of (tm2 (List.mem_of_getElem? (i := 16) rfl)) rfl
theorem wd_374 : Cond.instanceMethod yX11_unfound ∈ TB := TB_of (tm2 (List.mem_of_getElem? (i := 18) rfl)) rfl
theorem wd_375 : Cond.selects RX11 yX11_unfound yX11_unfound ∈ TB := TB_of (List.mem_append_left _ (List.mem_of_getElem? (i := 1) rfl)) rfl
theorem wd_376 : Cond.code yX11_unfound cX11_unfound 2 (some .int) ∈ TB := TB_of (tm2 (List.mem_of_getElem? (i := 19) rfl)) rfl
theorem wd_377 : Cond.methodLink RX11 86 yX3_isMissing ∈ TB := TB_of (tm2 (List.mem_of_getElem? (i := 24) rfl)) rfl
theorem wd_378 : Cond.instanceMethod yX3_isMissing ∈ TB := TB_of (tm2 (List.mem_of_getElem? (i := 25) rfl)) rfl
theorem wd_379 : Cond.selects RX3 yX3_isMissing yX3_isMissing ∈ TB := TB_of (tm2 (List.mem_of_getElem? (i := 26) rfl)) rfl
theorem wd_380 : Cond.code yX3_isMissing cX3_isMissing 1 (some .boolean) ∈ TB := TB_of (tm2 (List.mem_of_getElem? (i := 27) rfl)) rfl
theorem wd_381 : Cond.methodLink RX11 90 yX3_reaches ∈ TB := TB_of (tm2 (List.mem_of_getElem? (i := 28) rfl)) rfl
theorem wd_382 : Cond.instanceMethod yX3_reaches ∈ TB := TB_of (tm2 (List.mem_of_getElem? (i := 29) rfl)) rfl
theorem wd_383 : Cond.selects RX3 yX3_reaches yX3_reaches ∈ TB := TB_of (tm2 (List.mem_of_getElem? (i := 30) rfl)) rfl
theorem wd_384 : Cond.code yX3_reaches cX3_reaches 3 (some .boolean) ∈ TB := TB_of (tm2 (List.mem_of_getElem? (i := 31) rfl)) rfl
theorem wd_385 : Cond.methodLink RX11 94 yX3_put ∈ TB := TB_of (tm2 (List.mem_of_getElem? (i := 32) rfl)) rfl
theorem wd_386 : Cond.instanceMethod yX3_put ∈ TB := TB_of (tm2 (List.mem_of_getElem? (i := 33) rfl)) rfl
theorem wd_387 : Cond.selects RX3 yX3_put yX3_put ∈ TB := TB_of (tm2 (List.mem_of_getElem? (i := 34) rfl)) rfl
theorem wd_388 : Cond.code yX3_put cX3_put 3 (some .int) ∈ TB := TB_of (tm2 (List.mem_of_getElem? (i := 35) rfl)) rfl
theorem nb_389 : Cond.fieldLinkNest RX11 98 "PadPolish$Row" "lane" "I" "PadPolish" ∈ NB := NB_of (tm1 (List.mem_of_getElem? (i := 174) rfl)) rfl
theorem nb_390 : Cond.fieldLinkNest RX11 102 "PadPolish$Row" "items" "[I" "PadPolish" ∈ NB := NB_of (tm1 (List.mem_of_getElem? (i := 172) rfl)) rfl
theorem wd_391 : Cond.methodLink RX11 105 arraycopyName ∈ TB := TB_of (tm2 (List.mem_of_getElem? (i := 40) rfl)) rfl
theorem nb_392 : Cond.fieldLinkNest RX11 111 "PadPolish$Row" "length" "I" "PadPolish" ∈ NB := NB_of (tm1 (List.mem_of_getElem? (i := 176) rfl)) rfl
theorem wd_393 : Cond.methodLink RX11 114 yX9_append ∈ TB := TB_of (tm2 (List.mem_of_getElem? (i := 51) rfl)) rfl
theorem wd_394 : Cond.instanceMethod yX9_append ∈ TB := TB_of (tm2 (List.mem_of_getElem? (i := 52) rfl)) rfl
theorem wd_395 : Cond.selects RX9 yX9_append yX9_append ∈ TB := TB_of (tm2 (List.mem_of_getElem? (i := 53) rfl)) rfl
theorem wd_396 : Cond.code yX9_append cX9_append 2 (some .boolean) ∈ TB := TB_of (tm2 (List.mem_of_getElem? (i := 54) rfl)) rfl
theorem nb_397 : Cond.fieldLinkNest RX11 117 "PadPolish$Tape" "length" "I" "PadPolish" ∈ NB := NB_of (tm1 (List.mem_of_getElem? (i := 43) rfl)) rfl
theorem wd_398 : Cond.constant RX11 118 (Int32.ofInt (-1000003)) ∈ TB := TB_of (tm2 (List.mem_of_getElem? (i := 55) rfl)) rfl
theorem wd_399 : Cond.methodLink RX11 119 yX9_readInto ∈ TB := TB_of (tm2 (List.mem_of_getElem? (i := 60) rfl)) rfl
theorem wd_400 : Cond.instanceMethod yX9_readInto ∈ TB := TB_of (tm2 (List.mem_of_getElem? (i := 61) rfl)) rfl
theorem wd_401 : Cond.selects RX9 yX9_readInto yX9_readInto ∈ TB := TB_of (tm2 (List.mem_of_getElem? (i := 62) rfl)) rfl
theorem wd_402 : Cond.code yX9_readInto cX9_readInto 2 (some .boolean) ∈ TB := TB_of (tm2 (List.mem_of_getElem? (i := 63) rfl)) rfl
theorem nb_403 : Cond.fieldLinkNest RX11 123 "PadPolish$Tape" "faultNumber" "I" "PadPolish" ∈ NB := NB_of (tm1 (List.mem_of_getElem? (i := 46) rfl)) rfl
theorem wd_404 : Cond.fieldLink RX11 126 "PadPolish" "latestFault" "I" ∈ TB := TB_of (tm1 (List.mem_of_getElem? (i := 196) rfl)) rfl
theorem wd_405 : Cond.constant RX11 129 (Int32.ofInt (-1000100)) ∈ TB := TB_of (tm2 (List.mem_of_getElem? (i := 239) rfl)) rfl
theorem nb_406 : Cond.fieldLinkNest RX11 130 "PadPolish$Tape" "at" "I" "PadPolish" ∈ NB := NB_of (tm1 (List.mem_of_getElem? (i := 45) rfl)) rfl
theorem wd_407 : Cond.fieldLink RX11 133 "PadPolish" "told" "Z" ∈ TB := TB_of (tm1 (List.mem_of_getElem? (i := 195) rfl)) rfl
theorem wd_408 : Cond.methodLink RX11 137 yX11_forgetActs ∈ TB := TB_of (tm3 (List.mem_of_getElem? (i := 0) rfl)) rfl
theorem wd_409 : Cond.instanceMethod yX11_forgetActs ∈ TB := TB_of (tm3 (List.mem_of_getElem? (i := 2) rfl)) rfl
theorem wd_410 : Cond.selects RX11 yX11_forgetActs yX11_forgetActs ∈ TB := TB_of (List.mem_append_left _ (List.mem_of_getElem? (i := 14) rfl)) rfl
theorem wd_411 : Cond.code yX11_forgetActs cX11_forgetActs 1 none ∈ TB := TB_of (tm3 (List.mem_of_getElem? (i := 3) rfl)) rfl
theorem nb_412 : Cond.fieldLinkNest RX11 140 "PadPolish$Table" "passes" "Ljava/util/ArrayList;" "PadPolish" ∈ NB := NB_of (tm1 (List.mem_of_getElem? (i := 155) rfl)) rfl
theorem wd_413 : Cond.methodLink RX11 144 yJx4a65c_size_8abf5 ∈ TB := TB_of (tm3 (List.mem_of_getElem? (i := 4) rfl)) rfl
theorem wd_414 : Cond.fieldLink RX11 150 "PadPolish" "actCount" "I" ∈ TB := TB_of (tm1 (List.mem_of_getElem? (i := 198) rfl)) rfl
theorem wd_415 : Cond.constant RX11 153 (Int32.ofInt (-1000002)) ∈ TB := TB_of (tm3 (List.mem_of_getElem? (i := 16) rfl)) rfl
theorem wd_416 : Cond.fieldLink RX11 154 "PadPolish" "nextAct" "I" ∈ TB := TB_of (tm1 (List.mem_of_getElem? (i := 197) rfl)) rfl
theorem nb_417 : Cond.fieldLinkNest RX11 157 "PadPolish$Table" "surface" "LPadPolish$Surface;" "PadPolish" ∈ NB := NB_of (tm1 (List.mem_of_getElem? (i := 152) rfl)) rfl
theorem wd_418 : Cond.methodLink RX11 160 yX7_become ∈ TB := TB_of (tm3 (List.mem_of_getElem? (i := 17) rfl)) rfl
theorem wd_419 : Cond.methodLink RX11 164 yX11_keepAct ∈ TB := TB_of (tm3 (List.mem_of_getElem? (i := 26) rfl)) rfl
theorem wd_420 : Cond.instanceMethod yX11_keepAct ∈ TB := TB_of (tm3 (List.mem_of_getElem? (i := 28) rfl)) rfl
theorem wd_421 : Cond.selects RX11 yX11_keepAct yX11_keepAct ∈ TB := TB_of (List.mem_append_left _ (List.mem_of_getElem? (i := 15) rfl)) rfl
theorem wd_422 : Cond.code yX11_keepAct cX11_keepAct 1 none ∈ TB := TB_of (tm3 (List.mem_of_getElem? (i := 29) rfl)) rfl
theorem wd_423 : Cond.methodLink RX11 167 yX7_soakPad ∈ TB := TB_of (tm3 (List.mem_of_getElem? (i := 31) rfl)) rfl
theorem wd_424 : Cond.instanceMethod yX7_soakPad ∈ TB := TB_of (tm3 (List.mem_of_getElem? (i := 32) rfl)) rfl
theorem wd_425 : Cond.selects RX7 yX7_soakPad yX7_soakPad ∈ TB := TB_of (tm3 (List.mem_of_getElem? (i := 33) rfl)) rfl
theorem wd_426 : Cond.code yX7_soakPad cX7_soakPad 4 none ∈ TB := TB_of (tm3 (List.mem_of_getElem? (i := 34) rfl)) rfl
theorem nb_427 : Cond.fieldLinkNest RX11 170 "PadPolish$Surface" "wet" "I" "PadPolish" ∈ NB := NB_of (tm1 (List.mem_of_getElem? (i := 82) rfl)) rfl
theorem wd_428 : Cond.methodLink RX11 173 yX11_passOf ∈ TB := TB_of (tm3 (List.mem_of_getElem? (i := 40) rfl)) rfl
theorem wd_429 : Cond.instanceMethod yX11_passOf ∈ TB := TB_of (tm3 (List.mem_of_getElem? (i := 42) rfl)) rfl
theorem wd_430 : Cond.selects RX11 yX11_passOf yX11_passOf ∈ TB := TB_of (List.mem_append_left _ (List.mem_of_getElem? (i := 16) rfl)) rfl
theorem wd_431 : Cond.code yX11_passOf cX11_passOf 2 (some (.object "PadPolish$Pass")) ∈ TB := TB_of (tm3 (List.mem_of_getElem? (i := 43) rfl)) rfl
theorem wd_432 : Cond.methodLink RX11 177 yX2_goAlong ∈ TB := TB_of (tm3 (List.mem_of_getElem? (i := 59) rfl)) rfl
theorem wd_433 : Cond.methodLink RX11 182 yX11_isCell ∈ TB := TB_of (tm3 (List.mem_of_getElem? (i := 142) rfl)) rfl
theorem wd_434 : Cond.static yX11_isCell ∈ TB := TB_of (tm3 (List.mem_of_getElem? (i := 143) rfl)) rfl
theorem wd_435 : Cond.code yX11_isCell cX11_isCell 1 (some .boolean) ∈ TB := TB_of (tm3 (List.mem_of_getElem? (i := 144) rfl)) rfl
theorem wd_436 : Cond.methodLink RX11 185 yX7_tearAt ∈ TB := TB_of (tm3 (List.mem_of_getElem? (i := 145) rfl)) rfl
theorem wd_437 : Cond.instanceMethod yX7_tearAt ∈ TB := TB_of (tm3 (List.mem_of_getElem? (i := 146) rfl)) rfl
theorem wd_438 : Cond.selects RX7 yX7_tearAt yX7_tearAt ∈ TB := TB_of (tm3 (List.mem_of_getElem? (i := 147) rfl)) rfl
theorem wd_439 : Cond.code yX7_tearAt cX7_tearAt 2 none ∈ TB := TB_of (tm3 (List.mem_of_getElem? (i := 148) rfl)) rfl
theorem nb_440 : Cond.fieldLinkNest RX11 189 "PadPolish$Surface" "film" "[I" "PadPolish" ∈ NB := NB_of (tm1 (List.mem_of_getElem? (i := 72) rfl)) rfl
theorem nb_441 : Cond.fieldLinkNest RX11 192 "PadPolish$Table" "sink" "I" "PadPolish" ∈ NB := NB_of (tm1 (List.mem_of_getElem? (i := 158) rfl)) rfl
theorem wd_442 : Cond.methodLink RX11 195 yX7_sinkBy ∈ TB := TB_of (tm3 (List.mem_of_getElem? (i := 153) rfl)) rfl
theorem wd_443 : Cond.instanceMethod yX7_sinkBy ∈ TB := TB_of (tm3 (List.mem_of_getElem? (i := 154) rfl)) rfl
theorem wd_444 : Cond.selects RX7 yX7_sinkBy yX7_sinkBy ∈ TB := TB_of (tm3 (List.mem_of_getElem? (i := 155) rfl)) rfl
theorem wd_445 : Cond.code yX7_sinkBy cX7_sinkBy 3 none ∈ TB := TB_of (tm3 (List.mem_of_getElem? (i := 156) rfl)) rfl
theorem wd_446 : Cond.methodLink RX11 198 yX7_allFilm ∈ TB := TB_of (tm3 (List.mem_of_getElem? (i := 158) rfl)) rfl
theorem wd_447 : Cond.instanceMethod yX7_allFilm ∈ TB := TB_of (tm3 (List.mem_of_getElem? (i := 159) rfl)) rfl
theorem wd_448 : Cond.selects RX7 yX7_allFilm yX7_allFilm ∈ TB := TB_of (tm3 (List.mem_of_getElem? (i := 160) rfl)) rfl
theorem wd_449 : Cond.code yX7_allFilm cX7_allFilm 6 (some .int) ∈ TB := TB_of (tm3 (List.mem_of_getElem? (i := 161) rfl)) rfl
theorem nb_450 : Cond.fieldLinkNest RX11 201 "PadPolish$Surface" "soft" "[I" "PadPolish" ∈ NB := NB_of (tm1 (List.mem_of_getElem? (i := 76) rfl)) rfl
theorem nb_451 : Cond.fieldLinkNest RX11 204 "PadPolish$Surface" "haze" "[I" "PadPolish" ∈ NB := NB_of (tm1 (List.mem_of_getElem? (i := 78) rfl)) rfl
theorem wd_452 : Cond.methodLink RX11 207 yX8_passesAcross ∈ TB := TB_of (tm3 (List.mem_of_getElem? (i := 166) rfl)) rfl
theorem wd_453 : Cond.instanceMethod yX8_passesAcross ∈ TB := TB_of (tm3 (List.mem_of_getElem? (i := 167) rfl)) rfl
theorem wd_454 : Cond.selects RX8 yX8_passesAcross yX8_passesAcross ∈ TB := TB_of (tm3 (List.mem_of_getElem? (i := 168) rfl)) rfl
theorem wd_455 : Cond.code yX8_passesAcross cX8_passesAcross 4 (some .int) ∈ TB := TB_of (tm3 (List.mem_of_getElem? (i := 169) rfl)) rfl
theorem nb_456 : Cond.fieldLinkNest RX11 210 "PadPolish$Pass" "way" "[I" "PadPolish" ∈ NB := NB_of (tm2 (List.mem_of_getElem? (i := 146) rfl)) rfl
theorem wd_457 : Cond.constant RX11 213 (Int32.ofInt (-1000000)) ∈ TB := TB_of (tm3 (List.mem_of_getElem? (i := 186) rfl)) rfl
theorem nb_458 : Cond.fieldLinkNest RX11 214 "PadPolish$Surface" "oil" "I" "PadPolish" ∈ NB := NB_of (tm1 (List.mem_of_getElem? (i := 85) rfl)) rfl
theorem nb_459 : Cond.fieldLinkNest RX11 217 "PadPolish$Surface" "spent" "I" "PadPolish" ∈ NB := NB_of (tm1 (List.mem_of_getElem? (i := 87) rfl)) rfl
theorem wd_460 : Cond.methodLink RX11 220 yX11_guessRounds ∈ TB := TB_of (tm3 (List.mem_of_getElem? (i := 195) rfl)) rfl
theorem wd_461 : Cond.instanceMethod yX11_guessRounds ∈ TB := TB_of (tm3 (List.mem_of_getElem? (i := 197) rfl)) rfl
theorem wd_462 : Cond.selects RX11 yX11_guessRounds yX11_guessRounds ∈ TB := TB_of (List.mem_append_left _ (List.mem_of_getElem? (i := 17) rfl)) rfl
theorem wd_463 : Cond.code yX11_guessRounds cX11_guessRounds 3 none ∈ TB := TB_of (tm3 (List.mem_of_getElem? (i := 198) rfl)) rfl
theorem wd_464 : Cond.methodLink RX11 223 yX7_unevenness ∈ TB := TB_of (tm3 (List.mem_of_getElem? (i := 208) rfl)) rfl
theorem wd_465 : Cond.instanceMethod yX7_unevenness ∈ TB := TB_of (tm3 (List.mem_of_getElem? (i := 209) rfl)) rfl
theorem wd_466 : Cond.selects RX7 yX7_unevenness yX7_unevenness ∈ TB := TB_of (tm3 (List.mem_of_getElem? (i := 210) rfl)) rfl
theorem wd_467 : Cond.code yX7_unevenness cX7_unevenness 6 (some .int) ∈ TB := TB_of (tm3 (List.mem_of_getElem? (i := 211) rfl)) rfl
theorem wd_468 : Cond.methodLink RX11 226 yX11_findBestOrder ∈ TB := TB_of (tm3 (List.mem_of_getElem? (i := 220) rfl)) rfl
theorem wd_469 : Cond.instanceMethod yX11_findBestOrder ∈ TB := TB_of (tm3 (List.mem_of_getElem? (i := 222) rfl)) rfl
theorem wd_470 : Cond.selects RX11 yX11_findBestOrder yX11_findBestOrder ∈ TB := TB_of (List.mem_append_left _ (List.mem_of_getElem? (i := 18) rfl)) rfl
theorem wd_471 : Cond.code yX11_findBestOrder cX11_findBestOrder 5 (some .int) ∈ TB := TB_of (tm3 (List.mem_of_getElem? (i := 223) rfl)) rfl
theorem wd_472 : Cond.methodLink RX11 229 yX11_allPasses ∈ TB := TB_of (tm3 (List.mem_of_getElem? (i := 230) rfl)) rfl
theorem wd_473 : Cond.instanceMethod yX11_allPasses ∈ TB := TB_of (tm3 (List.mem_of_getElem? (i := 232) rfl)) rfl
theorem wd_474 : Cond.selects RX11 yX11_allPasses yX11_allPasses ∈ TB := TB_of (List.mem_append_left _ (List.mem_of_getElem? (i := 20) rfl)) rfl
theorem wd_475 : Cond.code yX11_allPasses cX11_allPasses 1 (some .int) ∈ TB := TB_of (tm3 (List.mem_of_getElem? (i := 233) rfl)) rfl
theorem wd_476 : Cond.methodLink RX11 232 yX8_cellsOf ∈ TB := TB_of (tm3 (List.mem_of_getElem? (i := 238) rfl)) rfl
theorem wd_477 : Cond.instanceMethod yX8_cellsOf ∈ TB := TB_of (tm3 (List.mem_of_getElem? (i := 239) rfl)) rfl
theorem wd_478 : Cond.selects RX8 yX8_cellsOf yX8_cellsOf ∈ TB := TB_of (tm4 (List.mem_of_getElem? (i := 0) rfl)) rfl
theorem wd_479 : Cond.code yX8_cellsOf cX8_cellsOf 4 (some .int) ∈ TB := TB_of (tm4 (List.mem_of_getElem? (i := 1) rfl)) rfl
theorem wd_480 : Cond.methodLink RX11 235 yX7_lackTo ∈ TB := TB_of (tm4 (List.mem_of_getElem? (i := 2) rfl)) rfl
theorem wd_481 : Cond.instanceMethod yX7_lackTo ∈ TB := TB_of (tm4 (List.mem_of_getElem? (i := 3) rfl)) rfl
theorem wd_482 : Cond.selects RX7 yX7_lackTo yX7_lackTo ∈ TB := TB_of (tm4 (List.mem_of_getElem? (i := 4) rfl)) rfl
theorem wd_483 : Cond.code yX7_lackTo cX7_lackTo 5 (some .int) ∈ TB := TB_of (tm4 (List.mem_of_getElem? (i := 5) rfl)) rfl
theorem wd_484 : Cond.methodLink RX11 238 yX8_makeAll ∈ TB := TB_of (tm3 (List.mem_of_getElem? (i := 199) rfl)) rfl
theorem wd_485 : Cond.instanceMethod yX8_makeAll ∈ TB := TB_of (tm3 (List.mem_of_getElem? (i := 200) rfl)) rfl
theorem wd_486 : Cond.selects RX8 yX8_makeAll yX8_makeAll ∈ TB := TB_of (tm3 (List.mem_of_getElem? (i := 201) rfl)) rfl
theorem wd_487 : Cond.code yX8_makeAll cX8_makeAll 3 none ∈ TB := TB_of (tm3 (List.mem_of_getElem? (i := 202) rfl)) rfl
theorem wd_488 : Cond.methodLink RX11 241 yX11_gainsAlong ∈ TB := TB_of (tm4 (List.mem_of_getElem? (i := 10) rfl)) rfl
theorem wd_489 : Cond.instanceMethod yX11_gainsAlong ∈ TB := TB_of (tm4 (List.mem_of_getElem? (i := 12) rfl)) rfl
theorem wd_490 : Cond.selects RX11 yX11_gainsAlong yX11_gainsAlong ∈ TB := TB_of (List.mem_append_left _ (List.mem_of_getElem? (i := 21) rfl)) rfl
theorem wd_491 : Cond.code yX11_gainsAlong cX11_gainsAlong 7 (some .boolean) ∈ TB := TB_of (tm4 (List.mem_of_getElem? (i := 13) rfl)) rfl
theorem wd_492 : Cond.methodLink RX11 245 yJ6_bitCount_0f7a4 ∈ TB := TB_of (tm4 (List.mem_of_getElem? (i := 18) rfl)) rfl
theorem wd_493 : Cond.static yJ6_bitCount_0f7a4 ∈ TB := TB_of (tm4 (List.mem_of_getElem? (i := 19) rfl)) rfl
theorem wd_494 : Cond.initialized RJ6 ∈ TB := TB_of (tm1 (List.mem_of_getElem? (i := 23) rfl)) rfl
theorem wd_495 : Cond.code yJ6_bitCount_0f7a4 cJ6_bitCount_0f7a4 1 (some .int) ∈ TB := TB_of (tm4 (List.mem_of_getElem? (i := 20) rfl)) rfl
theorem wd_496 : Cond.methodLink RX11 250 yX8_makeSome ∈ TB := TB_of (tm4 (List.mem_of_getElem? (i := 32) rfl)) rfl
theorem wd_497 : Cond.instanceMethod yX8_makeSome ∈ TB := TB_of (tm4 (List.mem_of_getElem? (i := 33) rfl)) rfl
theorem wd_498 : Cond.selects RX8 yX8_makeSome yX8_makeSome ∈ TB := TB_of (tm4 (List.mem_of_getElem? (i := 34) rfl)) rfl
theorem wd_499 : Cond.code yX8_makeSome cX8_makeSome 4 none ∈ TB := TB_of (tm4 (List.mem_of_getElem? (i := 35) rfl)) rfl
theorem wd_500 : Cond.methodLink RX11 254 yX3_tellsFilm ∈ TB := TB_of (tm4 (List.mem_of_getElem? (i := 36) rfl)) rfl
theorem wd_501 : Cond.instanceMethod yX3_tellsFilm ∈ TB := TB_of (tm4 (List.mem_of_getElem? (i := 37) rfl)) rfl
theorem wd_502 : Cond.selects RX3 yX3_tellsFilm yX3_tellsFilm ∈ TB := TB_of (tm4 (List.mem_of_getElem? (i := 38) rfl)) rfl
theorem wd_503 : Cond.code yX3_tellsFilm cX3_tellsFilm 4 (some .boolean) ∈ TB := TB_of (tm4 (List.mem_of_getElem? (i := 39) rfl)) rfl
theorem wd_504 : Cond.methodLink RX11 258 yX7_thinnestCells ∈ TB := TB_of (tm4 (List.mem_of_getElem? (i := 48) rfl)) rfl
theorem wd_505 : Cond.instanceMethod yX7_thinnestCells ∈ TB := TB_of (tm4 (List.mem_of_getElem? (i := 49) rfl)) rfl
theorem wd_506 : Cond.selects RX7 yX7_thinnestCells yX7_thinnestCells ∈ TB := TB_of (tm4 (List.mem_of_getElem? (i := 50) rfl)) rfl
theorem wd_507 : Cond.code yX7_thinnestCells cX7_thinnestCells 4 (some .int) ∈ TB := TB_of (tm4 (List.mem_of_getElem? (i := 51) rfl)) rfl
theorem wd_508 : Cond.constantLong RX11 261 (Int64.ofInt (-1000001)) ∈ TB := TB_of (tm4 (List.mem_of_getElem? (i := 56) rfl)) rfl
theorem wd_509 : Cond.methodLink RX11 263 yX11_power ∈ TB := TB_of (tm4 (List.mem_of_getElem? (i := 57) rfl)) rfl
theorem wd_510 : Cond.static yX11_power ∈ TB := TB_of (tm4 (List.mem_of_getElem? (i := 58) rfl)) rfl
theorem wd_511 : Cond.code yX11_power cX11_power 6 (some .long) ∈ TB := TB_of (tm4 (List.mem_of_getElem? (i := 59) rfl)) rfl
theorem wd_512 : Cond.constantLong RX11 267 (Int64.ofInt (10)) ∈ TB := TB_of (tm4 (List.mem_of_getElem? (i := 60) rfl)) rfl
theorem wd_513 : Cond.methodLink RX11 269 yX11_commonDivisor ∈ TB := TB_of (tm4 (List.mem_of_getElem? (i := 61) rfl)) rfl
theorem wd_514 : Cond.static yX11_commonDivisor ∈ TB := TB_of (tm4 (List.mem_of_getElem? (i := 62) rfl)) rfl
theorem wd_515 : Cond.code yX11_commonDivisor cX11_commonDivisor 11 (some .long) ∈ TB := TB_of (tm4 (List.mem_of_getElem? (i := 63) rfl)) rfl
theorem wd_516 : Cond.constant RX11 273 (Int32.ofInt (999999)) ∈ TB := TB_of (tm4 (List.mem_of_getElem? (i := 68) rfl)) rfl
theorem wd_517 : Cond.constantLong RX11 274 (Int64.ofInt (16807)) ∈ TB := TB_of (tm4 (List.mem_of_getElem? (i := 69) rfl)) rfl
theorem wd_518 : Cond.constantLong RX11 276 (Int64.ofInt (2147483647)) ∈ TB := TB_of (tm4 (List.mem_of_getElem? (i := 70) rfl)) rfl
theorem wd_519 : Cond.methodLink RX11 278 yJx4a65c_get_915e3 ∈ TB := TB_of (tm3 (List.mem_of_getElem? (i := 44) rfl)) rfl
theorem wd_520 : Cond.classLink RX11 178 RX2 ∈ TB := TB_of (tm3 (List.mem_of_getElem? (i := 58) rfl)) rfl
theorem wd_521 : Cond.constantLong RX11 282 (Int64.ofInt (7)) ∈ TB := TB_of (tm4 (List.mem_of_getElem? (i := 71) rfl)) rfl
theorem wd_522 : Cond.constantLong RX11 284 (Int64.ofInt (15)) ∈ TB := TB_of (tm4 (List.mem_of_getElem? (i := 72) rfl)) rfl
theorem wd_523 : Cond.methodLink RX11 286 yX8_become ∈ TB := TB_of (tm4 (List.mem_of_getElem? (i := 77) rfl)) rfl
theorem wd_524 : Cond.instanceMethod yX8_become ∈ TB := TB_of (tm4 (List.mem_of_getElem? (i := 78) rfl)) rfl
theorem wd_525 : Cond.selects RX8 yX8_become yX8_become ∈ TB := TB_of (tm4 (List.mem_of_getElem? (i := 79) rfl)) rfl
theorem wd_526 : Cond.code yX8_become cX8_become 2 none ∈ TB := TB_of (tm4 (List.mem_of_getElem? (i := 80) rfl)) rfl
theorem nb_527 : Cond.declares ⟨RX2, "kindNumber", "()I"⟩ ∈ NB := NB_of (tm4 (List.mem_of_getElem? (i := 91) rfl)) rfl
theorem wd_528 : Cond.methodLink RX11 289 ⟨RX2, "kindNumber", "()I"⟩ ∈ TB := TB_of (tm4 (List.mem_of_getElem? (i := 90) rfl)) rfl
theorem wd_529 : Cond.sameMethod "PadPolish$Pass" "PadPolish$Pass" "kindNumber" "()I" ∈ TB := TB_of (tm4 (List.mem_of_getElem? (i := 92) rfl)) rfl
theorem wd_530 : Cond.selects RX0 ⟨RX2, "kindNumber", "()I"⟩ yX0_kindNumber ∈ TB := TB_of (tm4 (List.mem_of_getElem? (i := 93) rfl)) rfl
theorem wd_531 : Cond.instanceMethod yX0_kindNumber ∈ TB := TB_of (tm4 (List.mem_of_getElem? (i := 94) rfl)) rfl
theorem wd_532 : Cond.code yX0_kindNumber cX0_kindNumber 1 (some .int) ∈ TB := TB_of (tm4 (List.mem_of_getElem? (i := 95) rfl)) rfl
theorem wd_533 : Cond.selects RX1 ⟨RX2, "kindNumber", "()I"⟩ yX1_kindNumber ∈ TB := TB_of (tm4 (List.mem_of_getElem? (i := 96) rfl)) rfl
theorem wd_534 : Cond.instanceMethod yX1_kindNumber ∈ TB := TB_of (tm4 (List.mem_of_getElem? (i := 97) rfl)) rfl
theorem wd_535 : Cond.code yX1_kindNumber cX1_kindNumber 1 (some .int) ∈ TB := TB_of (tm4 (List.mem_of_getElem? (i := 98) rfl)) rfl
theorem wd_536 : Cond.selects RX4 ⟨RX2, "kindNumber", "()I"⟩ yX4_kindNumber ∈ TB := TB_of (tm4 (List.mem_of_getElem? (i := 99) rfl)) rfl
theorem wd_537 : Cond.instanceMethod yX4_kindNumber ∈ TB := TB_of (tm4 (List.mem_of_getElem? (i := 100) rfl)) rfl
theorem wd_538 : Cond.code yX4_kindNumber cX4_kindNumber 1 (some .int) ∈ TB := TB_of (tm4 (List.mem_of_getElem? (i := 101) rfl)) rfl
theorem wd_539 : Cond.selects RX5 ⟨RX2, "kindNumber", "()I"⟩ yX5_kindNumber ∈ TB := TB_of (tm4 (List.mem_of_getElem? (i := 102) rfl)) rfl
theorem wd_540 : Cond.instanceMethod yX5_kindNumber ∈ TB := TB_of (tm4 (List.mem_of_getElem? (i := 103) rfl)) rfl
theorem wd_541 : Cond.code yX5_kindNumber cX5_kindNumber 1 (some .int) ∈ TB := TB_of (tm4 (List.mem_of_getElem? (i := 104) rfl)) rfl
theorem wd_542 : Cond.selects RX6 ⟨RX2, "kindNumber", "()I"⟩ yX6_kindNumber ∈ TB := TB_of (tm4 (List.mem_of_getElem? (i := 105) rfl)) rfl
theorem wd_543 : Cond.instanceMethod yX6_kindNumber ∈ TB := TB_of (tm4 (List.mem_of_getElem? (i := 106) rfl)) rfl
theorem wd_544 : Cond.code yX6_kindNumber cX6_kindNumber 1 (some .int) ∈ TB := TB_of (tm4 (List.mem_of_getElem? (i := 107) rfl)) rfl
theorem wd_545 : Cond.methodLink RX11 292 yX11_isOfKind ∈ TB := TB_of (tm4 (List.mem_of_getElem? (i := 112) rfl)) rfl
theorem wd_546 : Cond.static yX11_isOfKind ∈ TB := TB_of (tm4 (List.mem_of_getElem? (i := 113) rfl)) rfl
theorem wd_547 : Cond.code yX11_isOfKind cX11_isOfKind 2 (some .boolean) ∈ TB := TB_of (tm4 (List.mem_of_getElem? (i := 114) rfl)) rfl
theorem nb_548 : Cond.fieldLinkNest RX11 295 "PadPolish$Trace" "length" "I" "PadPolish" ∈ NB := NB_of (tm1 (List.mem_of_getElem? (i := 111) rfl)) rfl
theorem wd_549 : Cond.methodLink RX11 296 yX2_size ∈ TB := TB_of (tm4 (List.mem_of_getElem? (i := 124) rfl)) rfl
theorem wd_550 : Cond.selects RX0 yX2_size yX0_size ∈ TB := TB_of (tm4 (List.mem_of_getElem? (i := 127) rfl)) rfl
theorem wd_551 : Cond.selects RX1 yX2_size yX4_size ∈ TB := TB_of (tm4 (List.mem_of_getElem? (i := 135) rfl)) rfl
theorem wd_552 : Cond.selects RX4 yX2_size yX4_size ∈ TB := TB_of (tm4 (List.mem_of_getElem? (i := 159) rfl)) rfl
theorem wd_553 : Cond.selects RX5 yX2_size yX5_size ∈ TB := TB_of (tm4 (List.mem_of_getElem? (i := 160) rfl)) rfl
theorem wd_554 : Cond.instanceMethod yX5_size ∈ TB := TB_of (tm4 (List.mem_of_getElem? (i := 161) rfl)) rfl
theorem wd_555 : Cond.code yX5_size cX5_size 3 (some .int) ∈ TB := TB_of (tm4 (List.mem_of_getElem? (i := 162) rfl)) rfl
theorem wd_556 : Cond.selects RX6 yX2_size yX6_size ∈ TB := TB_of (tm4 (List.mem_of_getElem? (i := 164) rfl)) rfl
theorem wd_557 : Cond.methodLink RX11 299 yX2_mark ∈ TB := TB_of (tm4 (List.mem_of_getElem? (i := 170) rfl)) rfl
theorem wd_558 : Cond.selects RX0 yX2_mark yX0_mark ∈ TB := TB_of (tm6 (List.mem_of_getElem? (i := 129) rfl)) rfl
theorem wd_559 : Cond.instanceMethod yX0_mark ∈ TB := TB_of (tm4 (List.mem_of_getElem? (i := 171) rfl)) rfl
theorem wd_560 : Cond.code yX0_mark cX0_mark 4 (some .int) ∈ TB := TB_of (tm4 (List.mem_of_getElem? (i := 172) rfl)) rfl
theorem wd_561 : Cond.selects RX1 yX2_mark yX1_mark ∈ TB := TB_of (tm6 (List.mem_of_getElem? (i := 132) rfl)) rfl
theorem wd_562 : Cond.selects RX4 yX2_mark yX4_mark ∈ TB := TB_of (tm6 (List.mem_of_getElem? (i := 133) rfl)) rfl
theorem wd_563 : Cond.selects RX5 yX2_mark yX5_mark ∈ TB := TB_of (tm6 (List.mem_of_getElem? (i := 134) rfl)) rfl
theorem wd_564 : Cond.selects RX6 yX2_mark yX0_mark ∈ TB := TB_of (tm6 (List.mem_of_getElem? (i := 135) rfl)) rfl
theorem nb_565 : Cond.fieldLinkNest RX11 302 "PadPolish$Trace" "numbers" "[I" "PadPolish" ∈ NB := NB_of (tm1 (List.mem_of_getElem? (i := 109) rfl)) rfl
theorem wd_566 : Cond.methodLink RX11 305 yX11_rowsThere ∈ TB := TB_of (tm4 (List.mem_of_getElem? (i := 183) rfl)) rfl
theorem wd_567 : Cond.instanceMethod yX11_rowsThere ∈ TB := TB_of (tm4 (List.mem_of_getElem? (i := 185) rfl)) rfl
theorem wd_568 : Cond.selects RX11 yX11_rowsThere yX11_rowsThere ∈ TB := TB_of (List.mem_append_left _ (List.mem_of_getElem? (i := 22) rfl)) rfl
theorem wd_569 : Cond.code yX11_rowsThere cX11_rowsThere 6 (some .int) ∈ TB := TB_of (tm4 (List.mem_of_getElem? (i := 186) rfl)) rfl
theorem wd_570 : Cond.methodLink RX11 308 yX11_cellsAboveNone ∈ TB := TB_of (tm4 (List.mem_of_getElem? (i := 187) rfl)) rfl
theorem wd_571 : Cond.static yX11_cellsAboveNone ∈ TB := TB_of (tm4 (List.mem_of_getElem? (i := 188) rfl)) rfl
theorem wd_572 : Cond.code yX11_cellsAboveNone cX11_cellsAboveNone 6 (some .int) ∈ TB := TB_of (tm4 (List.mem_of_getElem? (i := 189) rfl)) rfl
theorem wd_573 : Cond.fieldLink RX11 312 "PadPolish" "latestFinding" "I" ∈ TB := TB_of (tm1 (List.mem_of_getElem? (i := 199) rfl)) rfl
theorem wd_574 : Cond.constant RX11 315 (Int32.ofInt (-1000010)) ∈ TB := TB_of (tm2 (List.mem_of_getElem? (i := 8) rfl)) rfl
theorem wd_575 : Cond.methodLink RX11 316 Lib.Math.min.name ∈ TB := TB_of (tm3 (List.mem_of_getElem? (i := 30) rfl)) rfl
theorem wd_576 : Cond.methodLink RX11 324 yX11_spellOrder ∈ TB := TB_of (tm3 (List.mem_of_getElem? (i := 226) rfl)) rfl
theorem wd_577 : Cond.instanceMethod yX11_spellOrder ∈ TB := TB_of (tm3 (List.mem_of_getElem? (i := 228) rfl)) rfl
theorem wd_578 : Cond.selects RX11 yX11_spellOrder yX11_spellOrder ∈ TB := TB_of (List.mem_append_left _ (List.mem_of_getElem? (i := 19) rfl)) rfl
theorem wd_579 : Cond.code yX11_spellOrder cX11_spellOrder 6 (some .boolean) ∈ TB := TB_of (tm3 (List.mem_of_getElem? (i := 229) rfl)) rfl
theorem wd_580 : Cond.classLink RX11 327 RX4 ∈ TB := TB_of (tm4 (List.mem_of_getElem? (i := 115) rfl)) rfl
theorem wd_581 : Cond.classLink RX11 329 RX5 ∈ TB := TB_of (tm4 (List.mem_of_getElem? (i := 116) rfl)) rfl
theorem wd_582 : Cond.classLink RX11 331 RX1 ∈ TB := TB_of (tm4 (List.mem_of_getElem? (i := 117) rfl)) rfl
theorem wd_583 : Cond.classLink RX11 333 RX0 ∈ TB := TB_of (tm4 (List.mem_of_getElem? (i := 118) rfl)) rfl
theorem wd_584 : Cond.classLink RX11 335 RX6 ∈ TB := TB_of (tm4 (List.mem_of_getElem? (i := 119) rfl)) rfl
theorem wd_585 : Cond.methodLink RX12 1 objectInit ∈ TB := TB_of (tm4 (List.mem_of_getElem? (i := 199) rfl)) rfl
theorem wd_586 : Cond.fieldLink RX12 7 "PadPolishModel" "lane" "[I" ∈ TB := TB_of (tm4 (List.mem_of_getElem? (i := 202) rfl)) rfl
theorem wd_587 : Cond.fieldLink RX12 13 "PadPolishModel" "many" "[I" ∈ TB := TB_of (tm4 (List.mem_of_getElem? (i := 203) rfl)) rfl
theorem wd_588 : Cond.fieldLink RX12 16 "PadPolishModel" "item" "[I" ∈ TB := TB_of (tm4 (List.mem_of_getElem? (i := 204) rfl)) rfl
theorem wd_589 : Cond.fieldLink RX12 19 "PadPolishModel" "table" "[I" ∈ TB := TB_of (tm4 (List.mem_of_getElem? (i := 205) rfl)) rfl
theorem wd_590 : Cond.fieldLink RX12 22 "PadPolishModel" "fresh" "[I" ∈ TB := TB_of (tm4 (List.mem_of_getElem? (i := 206) rfl)) rfl
theorem wd_591 : Cond.fieldLink RX12 25 "PadPolishModel" "then" "[I" ∈ TB := TB_of (tm4 (List.mem_of_getElem? (i := 207) rfl)) rfl
theorem wd_592 : Cond.fieldLink RX12 28 "PadPolishModel" "was" "[I" ∈ TB := TB_of (tm4 (List.mem_of_getElem? (i := 208) rfl)) rfl
theorem wd_593 : Cond.fieldLink RX12 31 "PadPolishModel" "tape" "[I" ∈ TB := TB_of (tm4 (List.mem_of_getElem? (i := 210) rfl)) rfl
theorem wd_594 : Cond.fieldLink RX12 34 "PadPolishModel" "isKept" "[Z" ∈ TB := TB_of (tm4 (List.mem_of_getElem? (i := 220) rfl)) rfl
theorem wd_595 : Cond.fieldLink RX12 38 "PadPolishModel" "kept" "[I" ∈ TB := TB_of (tm4 (List.mem_of_getElem? (i := 221) rfl)) rfl
theorem wd_596 : Cond.fieldLink RX12 41 "PadPolishModel" "trace" "[I" ∈ TB := TB_of (tm4 (List.mem_of_getElem? (i := 222) rfl)) rfl
theorem wd_597 : Cond.fieldLink RX12 48 "PadPolishModel" "status" "I" ∈ TB := TB_of (tm4 (List.mem_of_getElem? (i := 201) rfl)) rfl
theorem wd_598 : Cond.constant RX12 51 (Int32.ofInt (-1000010)) ∈ TB := TB_of (tm5 (List.mem_of_getElem? (i := 50) rfl)) rfl
theorem wd_599 : Cond.constantLong RX12 52 (Int64.ofInt (7)) ∈ TB := TB_of (tm5 (List.mem_of_getElem? (i := 40) rfl)) rfl
theorem wd_600 : Cond.methodLink RX12 54 yX12_in ∈ TB := TB_of (tm5 (List.mem_of_getElem? (i := 41) rfl)) rfl
theorem wd_601 : Cond.static yX12_in ∈ TB := TB_of (tm5 (List.mem_of_getElem? (i := 42) rfl)) rfl
theorem wd_602 : Cond.initialized RX12 ∈ TB := TB_of (tm1 (List.mem_of_getElem? (i := 10) rfl)) rfl
theorem wd_603 : Cond.code yX12_in cX12_in 6 (some .boolean) ∈ TB := TB_of (tm5 (List.mem_of_getElem? (i := 43) rfl)) rfl
theorem wd_604 : Cond.fieldLink RX12 44 "PadPolishModel" "thrown" "I" ∈ TB := TB_of (tm4 (List.mem_of_getElem? (i := 200) rfl)) rfl
theorem wd_605 : Cond.methodLink RX12 58 yX12_isRow ∈ TB := TB_of (tm5 (List.mem_of_getElem? (i := 37) rfl)) rfl
theorem wd_606 : Cond.static yX12_isRow ∈ TB := TB_of (tm5 (List.mem_of_getElem? (i := 38) rfl)) rfl
theorem wd_607 : Cond.code yX12_isRow cX12_isRow 1 (some .boolean) ∈ TB := TB_of (tm5 (List.mem_of_getElem? (i := 39) rfl)) rfl
theorem wd_608 : Cond.constantLong RX12 62 (Int64.ofInt (2)) ∈ TB := TB_of (tm5 (List.mem_of_getElem? (i := 44) rfl)) rfl
theorem wd_609 : Cond.constant RX12 64 (Int32.ofInt (-1000001)) ∈ TB := TB_of (tm5 (List.mem_of_getElem? (i := 45) rfl)) rfl
theorem wd_610 : Cond.methodLink RX12 65 yX12_finding ∈ TB := TB_of (tm5 (List.mem_of_getElem? (i := 46) rfl)) rfl
theorem wd_611 : Cond.instanceMethod yX12_finding ∈ TB := TB_of (tm5 (List.mem_of_getElem? (i := 48) rfl)) rfl
theorem wd_612 : Cond.selects RX12 yX12_finding yX12_finding ∈ TB := TB_of (List.mem_append_left _ (List.mem_of_getElem? (i := 23) rfl)) rfl
theorem wd_613 : Cond.code yX12_finding cX12_finding 2 (some .int) ∈ TB := TB_of (tm5 (List.mem_of_getElem? (i := 49) rfl)) rfl
theorem wd_614 : Cond.constantLong RX12 69 (Int64.ofInt (255)) ∈ TB := TB_of (tm5 (List.mem_of_getElem? (i := 67) rfl)) rfl
theorem wd_615 : Cond.fieldLink RX12 71 "PadPolishModel" "taped" "I" ∈ TB := TB_of (tm4 (List.mem_of_getElem? (i := 211) rfl)) rfl
theorem wd_616 : Cond.constant RX12 74 (Int32.ofInt (-1000003)) ∈ TB := TB_of (tm5 (List.mem_of_getElem? (i := 68) rfl)) rfl
theorem wd_617 : Cond.fieldLink RX12 75 "PadPolishModel" "fault" "I" ∈ TB := TB_of (tm4 (List.mem_of_getElem? (i := 216) rfl)) rfl
theorem wd_618 : Cond.fieldLink RX12 78 "PadPolishModel" "start" "I" ∈ TB := TB_of (tm4 (List.mem_of_getElem? (i := 213) rfl)) rfl
theorem wd_619 : Cond.fieldLink RX12 81 "PadPolishModel" "faultAt" "I" ∈ TB := TB_of (tm4 (List.mem_of_getElem? (i := 217) rfl)) rfl
theorem wd_620 : Cond.fieldLink RX12 84 "PadPolishModel" "cursor" "I" ∈ TB := TB_of (tm4 (List.mem_of_getElem? (i := 212) rfl)) rfl
theorem wd_621 : Cond.constant RX12 87 (Int32.ofInt (-1000000)) ∈ TB := TB_of (tm5 (List.mem_of_getElem? (i := 85) rfl)) rfl
theorem wd_622 : Cond.fieldLink RX12 88 "PadPolishModel" "value" "I" ∈ TB := TB_of (tm4 (List.mem_of_getElem? (i := 215) rfl)) rfl
theorem wd_623 : Cond.constantLong RX12 91 (Int64.ofInt (97)) ∈ TB := TB_of (tm5 (List.mem_of_getElem? (i := 86) rfl)) rfl
theorem wd_624 : Cond.constantLong RX12 93 (Int64.ofInt (122)) ∈ TB := TB_of (tm5 (List.mem_of_getElem? (i := 87) rfl)) rfl
theorem wd_625 : Cond.constantLong RX12 95 (Int64.ofInt (48)) ∈ TB := TB_of (tm5 (List.mem_of_getElem? (i := 88) rfl)) rfl
theorem wd_626 : Cond.constantLong RX12 97 (Int64.ofInt (57)) ∈ TB := TB_of (tm5 (List.mem_of_getElem? (i := 89) rfl)) rfl
theorem wd_627 : Cond.fieldLink RX12 99 "PadPolishModel" "token" "I" ∈ TB := TB_of (tm4 (List.mem_of_getElem? (i := 214) rfl)) rfl
theorem wd_628 : Cond.methodLink RX12 102 yX12_bad ∈ TB := TB_of (tm5 (List.mem_of_getElem? (i := 98) rfl)) rfl
theorem wd_629 : Cond.instanceMethod yX12_bad ∈ TB := TB_of (tm5 (List.mem_of_getElem? (i := 100) rfl)) rfl
theorem wd_630 : Cond.selects RX12 yX12_bad yX12_bad ∈ TB := TB_of (List.mem_append_left _ (List.mem_of_getElem? (i := 28) rfl)) rfl
theorem wd_631 : Cond.code yX12_bad cX12_bad 2 none ∈ TB := TB_of (tm5 (List.mem_of_getElem? (i := 101) rfl)) rfl
theorem wd_632 : Cond.methodLink RX12 106 yX12_nextToken ∈ TB := TB_of (tm5 (List.mem_of_getElem? (i := 81) rfl)) rfl
theorem wd_633 : Cond.instanceMethod yX12_nextToken ∈ TB := TB_of (tm5 (List.mem_of_getElem? (i := 83) rfl)) rfl
theorem wd_634 : Cond.selects RX12 yX12_nextToken yX12_nextToken ∈ TB := TB_of (List.mem_append_left _ (List.mem_of_getElem? (i := 25) rfl)) rfl
theorem wd_635 : Cond.code yX12_nextToken cX12_nextToken 1 none ∈ TB := TB_of (tm5 (List.mem_of_getElem? (i := 84) rfl)) rfl
theorem wd_636 : Cond.methodLink RX12 109 yX12_must ∈ TB := TB_of (tm5 (List.mem_of_getElem? (i := 94) rfl)) rfl
theorem wd_637 : Cond.instanceMethod yX12_must ∈ TB := TB_of (tm5 (List.mem_of_getElem? (i := 96) rfl)) rfl
theorem wd_638 : Cond.selects RX12 yX12_must yX12_must ∈ TB := TB_of (List.mem_append_left _ (List.mem_of_getElem? (i := 27) rfl)) rfl
theorem wd_639 : Cond.code yX12_must cX12_must 2 none ∈ TB := TB_of (tm5 (List.mem_of_getElem? (i := 97) rfl)) rfl
theorem wd_640 : Cond.fieldLink RX12 113 "PadPolishModel" "latest" "I" ∈ TB := TB_of (tm4 (List.mem_of_getElem? (i := 218) rfl)) rfl
theorem wd_641 : Cond.methodLink RX12 116 yX12_number ∈ TB := TB_of (tm5 (List.mem_of_getElem? (i := 102) rfl)) rfl
theorem wd_642 : Cond.instanceMethod yX12_number ∈ TB := TB_of (tm5 (List.mem_of_getElem? (i := 104) rfl)) rfl
theorem wd_643 : Cond.selects RX12 yX12_number yX12_number ∈ TB := TB_of (List.mem_append_left _ (List.mem_of_getElem? (i := 29) rfl)) rfl
theorem wd_644 : Cond.code yX12_number cX12_number 4 (some .int) ∈ TB := TB_of (tm5 (List.mem_of_getElem? (i := 105) rfl)) rfl
theorem wd_645 : Cond.methodLink RX12 120 yX12_mustSign ∈ TB := TB_of (tm5 (List.mem_of_getElem? (i := 106) rfl)) rfl
theorem wd_646 : Cond.instanceMethod yX12_mustSign ∈ TB := TB_of (tm5 (List.mem_of_getElem? (i := 108) rfl)) rfl
theorem wd_647 : Cond.selects RX12 yX12_mustSign yX12_mustSign ∈ TB := TB_of (List.mem_append_left _ (List.mem_of_getElem? (i := 30) rfl)) rfl
theorem wd_648 : Cond.code yX12_mustSign cX12_mustSign 2 none ∈ TB := TB_of (tm5 (List.mem_of_getElem? (i := 109) rfl)) rfl
theorem wd_649 : Cond.fieldLink RX12 123 "PadPolishModel" "last" "I" ∈ TB := TB_of (tm4 (List.mem_of_getElem? (i := 219) rfl)) rfl
theorem wd_650 : Cond.methodLink RX12 126 yX12_kindBy ∈ TB := TB_of (tm5 (List.mem_of_getElem? (i := 114) rfl)) rfl
theorem wd_651 : Cond.static yX12_kindBy ∈ TB := TB_of (tm5 (List.mem_of_getElem? (i := 115) rfl)) rfl
theorem wd_652 : Cond.code yX12_kindBy cX12_kindBy 1 (some .int) ∈ TB := TB_of (tm5 (List.mem_of_getElem? (i := 116) rfl)) rfl
theorem wd_653 : Cond.methodLink RX12 129 yX12_stepFrom ∈ TB := TB_of (tm5 (List.mem_of_getElem? (i := 121) rfl)) rfl
theorem wd_654 : Cond.static yX12_stepFrom ∈ TB := TB_of (tm5 (List.mem_of_getElem? (i := 122) rfl)) rfl
theorem wd_655 : Cond.code yX12_stepFrom cX12_stepFrom 3 (some .int) ∈ TB := TB_of (tm5 (List.mem_of_getElem? (i := 123) rfl)) rfl
theorem wd_656 : Cond.methodLink RX12 132 yX12_begin ∈ TB := TB_of (tm5 (List.mem_of_getElem? (i := 77) rfl)) rfl
theorem wd_657 : Cond.instanceMethod yX12_begin ∈ TB := TB_of (tm5 (List.mem_of_getElem? (i := 79) rfl)) rfl
theorem wd_658 : Cond.selects RX12 yX12_begin yX12_begin ∈ TB := TB_of (List.mem_append_left _ (List.mem_of_getElem? (i := 24) rfl)) rfl
theorem wd_659 : Cond.code yX12_begin cX12_begin 1 none ∈ TB := TB_of (tm5 (List.mem_of_getElem? (i := 80) rfl)) rfl
theorem wd_660 : Cond.methodLink RX12 135 yX12_isLetter ∈ TB := TB_of (tm5 (List.mem_of_getElem? (i := 90) rfl)) rfl
theorem wd_661 : Cond.instanceMethod yX12_isLetter ∈ TB := TB_of (tm5 (List.mem_of_getElem? (i := 92) rfl)) rfl
theorem wd_662 : Cond.selects RX12 yX12_isLetter yX12_isLetter ∈ TB := TB_of (List.mem_append_left _ (List.mem_of_getElem? (i := 26) rfl)) rfl
theorem wd_663 : Cond.code yX12_isLetter cX12_isLetter 2 (some .boolean) ∈ TB := TB_of (tm5 (List.mem_of_getElem? (i := 93) rfl)) rfl
theorem wd_664 : Cond.methodLink RX12 138 yX12_readCell ∈ TB := TB_of (tm5 (List.mem_of_getElem? (i := 110) rfl)) rfl
theorem wd_665 : Cond.instanceMethod yX12_readCell ∈ TB := TB_of (tm5 (List.mem_of_getElem? (i := 112) rfl)) rfl
theorem wd_666 : Cond.selects RX12 yX12_readCell yX12_readCell ∈ TB := TB_of (List.mem_append_left _ (List.mem_of_getElem? (i := 31) rfl)) rfl
theorem wd_667 : Cond.code yX12_readCell cX12_readCell 5 none ∈ TB := TB_of (tm5 (List.mem_of_getElem? (i := 113) rfl)) rfl
theorem wd_668 : Cond.methodLink RX12 142 yX12_readPass ∈ TB := TB_of (tm5 (List.mem_of_getElem? (i := 117) rfl)) rfl
theorem wd_669 : Cond.instanceMethod yX12_readPass ∈ TB := TB_of (tm5 (List.mem_of_getElem? (i := 119) rfl)) rfl
theorem wd_670 : Cond.selects RX12 yX12_readPass yX12_readPass ∈ TB := TB_of (List.mem_append_left _ (List.mem_of_getElem? (i := 32) rfl)) rfl
theorem wd_671 : Cond.code yX12_readPass cX12_readPass 5 none ∈ TB := TB_of (tm5 (List.mem_of_getElem? (i := 120) rfl)) rfl
theorem wd_672 : Cond.methodLink RX12 145 yX12_failed ∈ TB := TB_of (tm5 (List.mem_of_getElem? (i := 124) rfl)) rfl
theorem wd_673 : Cond.instanceMethod yX12_failed ∈ TB := TB_of (tm5 (List.mem_of_getElem? (i := 126) rfl)) rfl
theorem wd_674 : Cond.selects RX12 yX12_failed yX12_failed ∈ TB := TB_of (List.mem_append_left _ (List.mem_of_getElem? (i := 33) rfl)) rfl
theorem wd_675 : Cond.code yX12_failed cX12_failed 1 (some .boolean) ∈ TB := TB_of (tm5 (List.mem_of_getElem? (i := 127) rfl)) rfl
theorem wd_676 : Cond.constant RX12 149 (Int32.ofInt (-1000100)) ∈ TB := TB_of (tm5 (List.mem_of_getElem? (i := 128) rfl)) rfl
theorem wd_677 : Cond.fieldLink RX12 150 "PadPolishModel" "acts" "I" ∈ TB := TB_of (tm4 (List.mem_of_getElem? (i := 209) rfl)) rfl
theorem wd_678 : Cond.constantLong RX12 153 (Int64.ofInt (14)) ∈ TB := TB_of (tm5 (List.mem_of_getElem? (i := 183) rfl)) rfl
theorem wd_679 : Cond.constantLong RX12 155 (Int64.ofInt (32767)) ∈ TB := TB_of (tm6 (List.mem_of_getElem? (i := 35) rfl)) rfl
theorem wd_680 : Cond.methodLink RX12 157 yX12_cellsOf ∈ TB := TB_of (tm5 (List.mem_of_getElem? (i := 158) rfl)) rfl
theorem wd_681 : Cond.instanceMethod yX12_cellsOf ∈ TB := TB_of (tm5 (List.mem_of_getElem? (i := 160) rfl)) rfl
theorem wd_682 : Cond.selects RX12 yX12_cellsOf yX12_cellsOf ∈ TB := TB_of (List.mem_append_left _ (List.mem_of_getElem? (i := 38) rfl)) rfl
theorem wd_683 : Cond.code yX12_cellsOf cX12_cellsOf 2 (some .int) ∈ TB := TB_of (tm5 (List.mem_of_getElem? (i := 161) rfl)) rfl
theorem wd_684 : Cond.methodLink RX12 160 yX12_cellAt ∈ TB := TB_of (tm5 (List.mem_of_getElem? (i := 166) rfl)) rfl
theorem wd_685 : Cond.instanceMethod yX12_cellAt ∈ TB := TB_of (tm5 (List.mem_of_getElem? (i := 168) rfl)) rfl
theorem wd_686 : Cond.selects RX12 yX12_cellAt yX12_cellAt ∈ TB := TB_of (List.mem_append_left _ (List.mem_of_getElem? (i := 40) rfl)) rfl
theorem wd_687 : Cond.code yX12_cellAt cX12_cellAt 3 (some .int) ∈ TB := TB_of (tm5 (List.mem_of_getElem? (i := 169) rfl)) rfl
theorem wd_688 : Cond.methodLink RX12 163 yX12_lay ∈ TB := TB_of (tm5 (List.mem_of_getElem? (i := 173) rfl)) rfl
theorem wd_689 : Cond.static yX12_lay ∈ TB := TB_of (tm5 (List.mem_of_getElem? (i := 174) rfl)) rfl
theorem wd_690 : Cond.code yX12_lay cX12_lay 5 none ∈ TB := TB_of (tm5 (List.mem_of_getElem? (i := 175) rfl)) rfl
theorem wd_691 : Cond.methodLink RX12 167 yX12_kindOf ∈ TB := TB_of (tm5 (List.mem_of_getElem? (i := 162) rfl)) rfl
theorem wd_692 : Cond.instanceMethod yX12_kindOf ∈ TB := TB_of (tm5 (List.mem_of_getElem? (i := 164) rfl)) rfl
theorem wd_693 : Cond.selects RX12 yX12_kindOf yX12_kindOf ∈ TB := TB_of (List.mem_append_left _ (List.mem_of_getElem? (i := 39) rfl)) rfl
theorem wd_694 : Cond.code yX12_kindOf cX12_kindOf 2 (some .int) ∈ TB := TB_of (tm5 (List.mem_of_getElem? (i := 165) rfl)) rfl
theorem wd_695 : Cond.methodLink RX12 170 yX12_goOver ∈ TB := TB_of (tm5 (List.mem_of_getElem? (i := 170) rfl)) rfl
theorem wd_696 : Cond.static yX12_goOver ∈ TB := TB_of (tm5 (List.mem_of_getElem? (i := 171) rfl)) rfl
theorem wd_697 : Cond.code yX12_goOver cX12_goOver 6 none ∈ TB := TB_of (tm5 (List.mem_of_getElem? (i := 172) rfl)) rfl
theorem wd_698 : Cond.methodLink RX12 173 yX12_pass ∈ TB := TB_of (tm5 (List.mem_of_getElem? (i := 154) rfl)) rfl
theorem wd_699 : Cond.instanceMethod yX12_pass ∈ TB := TB_of (tm5 (List.mem_of_getElem? (i := 156) rfl)) rfl
theorem wd_700 : Cond.selects RX12 yX12_pass yX12_pass ∈ TB := TB_of (List.mem_append_left _ (List.mem_of_getElem? (i := 37) rfl)) rfl
theorem wd_701 : Cond.code yX12_pass cX12_pass 4 none ∈ TB := TB_of (tm5 (List.mem_of_getElem? (i := 157) rfl)) rfl
theorem wd_702 : Cond.methodLink RX12 177 yX12_isThere ∈ TB := TB_of (tm5 (List.mem_of_getElem? (i := 133) rfl)) rfl
theorem wd_703 : Cond.instanceMethod yX12_isThere ∈ TB := TB_of (tm5 (List.mem_of_getElem? (i := 135) rfl)) rfl
theorem wd_704 : Cond.selects RX12 yX12_isThere yX12_isThere ∈ TB := TB_of (List.mem_append_left _ (List.mem_of_getElem? (i := 34) rfl)) rfl
theorem wd_705 : Cond.code yX12_isThere cX12_isThere 1 (some .boolean) ∈ TB := TB_of (tm5 (List.mem_of_getElem? (i := 136) rfl)) rfl
theorem wd_706 : Cond.constant RX12 180 (Int32.ofInt (-1000002)) ∈ TB := TB_of (tm5 (List.mem_of_getElem? (i := 137) rfl)) rfl
theorem wd_707 : Cond.constantLong RX12 181 (Int64.ofInt (99)) ∈ TB := TB_of (tm5 (List.mem_of_getElem? (i := 138) rfl)) rfl
theorem wd_708 : Cond.methodLink RX12 183 yX12_keep ∈ TB := TB_of (tm5 (List.mem_of_getElem? (i := 139) rfl)) rfl
theorem wd_709 : Cond.instanceMethod yX12_keep ∈ TB := TB_of (tm5 (List.mem_of_getElem? (i := 141) rfl)) rfl
theorem wd_710 : Cond.selects RX12 yX12_keep yX12_keep ∈ TB := TB_of (List.mem_append_left _ (List.mem_of_getElem? (i := 35) rfl)) rfl
theorem wd_711 : Cond.code yX12_keep cX12_keep 2 none ∈ TB := TB_of (tm5 (List.mem_of_getElem? (i := 142) rfl)) rfl
theorem wd_712 : Cond.methodLink RX12 186 yX12_atMost ∈ TB := TB_of (tm5 (List.mem_of_getElem? (i := 143) rfl)) rfl
theorem wd_713 : Cond.static yX12_atMost ∈ TB := TB_of (tm5 (List.mem_of_getElem? (i := 144) rfl)) rfl
theorem wd_714 : Cond.code yX12_atMost cX12_atMost 2 (some .int) ∈ TB := TB_of (tm5 (List.mem_of_getElem? (i := 145) rfl)) rfl
theorem wd_715 : Cond.methodLink RX12 189 yX12_isPass ∈ TB := TB_of (tm5 (List.mem_of_getElem? (i := 150) rfl)) rfl
theorem wd_716 : Cond.instanceMethod yX12_isPass ∈ TB := TB_of (tm5 (List.mem_of_getElem? (i := 152) rfl)) rfl
theorem wd_717 : Cond.selects RX12 yX12_isPass yX12_isPass ∈ TB := TB_of (List.mem_append_left _ (List.mem_of_getElem? (i := 36) rfl)) rfl
theorem wd_718 : Cond.code yX12_isPass cX12_isPass 2 (some .boolean) ∈ TB := TB_of (tm5 (List.mem_of_getElem? (i := 153) rfl)) rfl
theorem wd_719 : Cond.methodLink RX12 192 yX12_isCell ∈ TB := TB_of (tm5 (List.mem_of_getElem? (i := 180) rfl)) rfl
theorem wd_720 : Cond.static yX12_isCell ∈ TB := TB_of (tm5 (List.mem_of_getElem? (i := 181) rfl)) rfl
theorem wd_721 : Cond.code yX12_isCell cX12_isCell 1 (some .boolean) ∈ TB := TB_of (tm5 (List.mem_of_getElem? (i := 182) rfl)) rfl
theorem wd_722 : Cond.methodLink RX12 195 yX12_stands ∈ TB := TB_of (tm5 (List.mem_of_getElem? (i := 184) rfl)) rfl
theorem wd_723 : Cond.static yX12_stands ∈ TB := TB_of (tm5 (List.mem_of_getElem? (i := 185) rfl)) rfl
theorem wd_724 : Cond.code yX12_stands cX12_stands 2 none ∈ TB := TB_of (tm5 (List.mem_of_getElem? (i := 186) rfl)) rfl
theorem wd_725 : Cond.methodLink RX12 198 yX12_rests ∈ TB := TB_of (tm5 (List.mem_of_getElem? (i := 191) rfl)) rfl
theorem wd_726 : Cond.static yX12_rests ∈ TB := TB_of (tm5 (List.mem_of_getElem? (i := 192) rfl)) rfl
theorem wd_727 : Cond.code yX12_rests cX12_rests 2 none ∈ TB := TB_of (tm5 (List.mem_of_getElem? (i := 193) rfl)) rfl
theorem wd_728 : Cond.methodLink RX12 202 yX12_filmOf ∈ TB := TB_of (tm5 (List.mem_of_getElem? (i := 194) rfl)) rfl
theorem wd_729 : Cond.static yX12_filmOf ∈ TB := TB_of (tm5 (List.mem_of_getElem? (i := 195) rfl)) rfl
theorem wd_730 : Cond.code yX12_filmOf cX12_filmOf 3 (some .int) ∈ TB := TB_of (tm5 (List.mem_of_getElem? (i := 196) rfl)) rfl
theorem wd_731 : Cond.constantLong RX12 206 (Int64.ofInt (3)) ∈ TB := TB_of (tm5 (List.mem_of_getElem? (i := 205) rfl)) rfl
theorem wd_732 : Cond.methodLink RX12 208 yX12_overBy ∈ TB := TB_of (tm5 (List.mem_of_getElem? (i := 206) rfl)) rfl
theorem wd_733 : Cond.instanceMethod yX12_overBy ∈ TB := TB_of (tm5 (List.mem_of_getElem? (i := 208) rfl)) rfl
theorem wd_734 : Cond.selects RX12 yX12_overBy yX12_overBy ∈ TB := TB_of (List.mem_append_left _ (List.mem_of_getElem? (i := 41) rfl)) rfl
theorem wd_735 : Cond.code yX12_overBy cX12_overBy 4 (some .int) ∈ TB := TB_of (tm5 (List.mem_of_getElem? (i := 209) rfl)) rfl
theorem wd_736 : Cond.methodLink RX12 211 yX12_layThen ∈ TB := TB_of (tm5 (List.mem_of_getElem? (i := 227) rfl)) rfl
theorem wd_737 : Cond.instanceMethod yX12_layThen ∈ TB := TB_of (tm5 (List.mem_of_getElem? (i := 229) rfl)) rfl
theorem wd_738 : Cond.selects RX12 yX12_layThen yX12_layThen ∈ TB := TB_of (List.mem_append_left _ (List.mem_of_getElem? (i := 43) rfl)) rfl
theorem wd_739 : Cond.code yX12_layThen cX12_layThen 2 none ∈ TB := TB_of (tm5 (List.mem_of_getElem? (i := 230) rfl)) rfl
theorem wd_740 : Cond.methodLink RX12 214 yX12_allPasses ∈ TB := TB_of (tm5 (List.mem_of_getElem? (i := 231) rfl)) rfl
theorem wd_741 : Cond.instanceMethod yX12_allPasses ∈ TB := TB_of (tm5 (List.mem_of_getElem? (i := 233) rfl)) rfl
theorem wd_742 : Cond.selects RX12 yX12_allPasses yX12_allPasses ∈ TB := TB_of (List.mem_append_left _ (List.mem_of_getElem? (i := 44) rfl)) rfl
theorem wd_743 : Cond.code yX12_allPasses cX12_allPasses 3 none ∈ TB := TB_of (tm5 (List.mem_of_getElem? (i := 234) rfl)) rfl
theorem wd_744 : Cond.constantLong RX12 217 (Int64.ofInt (20)) ∈ TB := TB_of (tm5 (List.mem_of_getElem? (i := 222) rfl)) rfl
theorem wd_745 : Cond.methodLink RX12 219 yX12_layAhead ∈ TB := TB_of (tm5 (List.mem_of_getElem? (i := 223) rfl)) rfl
theorem wd_746 : Cond.instanceMethod yX12_layAhead ∈ TB := TB_of (tm5 (List.mem_of_getElem? (i := 225) rfl)) rfl
theorem wd_747 : Cond.selects RX12 yX12_layAhead yX12_layAhead ∈ TB := TB_of (List.mem_append_left _ (List.mem_of_getElem? (i := 42) rfl)) rfl
theorem wd_748 : Cond.code yX12_layAhead cX12_layAhead 3 none ∈ TB := TB_of (tm5 (List.mem_of_getElem? (i := 226) rfl)) rfl
theorem wd_749 : Cond.methodLink RX12 222 yX12_unevenOf ∈ TB := TB_of (tm5 (List.mem_of_getElem? (i := 239) rfl)) rfl
theorem wd_750 : Cond.static yX12_unevenOf ∈ TB := TB_of (tm6 (List.mem_of_getElem? (i := 0) rfl)) rfl
theorem wd_751 : Cond.code yX12_unevenOf cX12_unevenOf 4 (some .int) ∈ TB := TB_of (tm6 (List.mem_of_getElem? (i := 1) rfl)) rfl
theorem wd_752 : Cond.methodLink RX12 225 yX12_placed ∈ TB := TB_of (tm6 (List.mem_of_getElem? (i := 11) rfl)) rfl
theorem wd_753 : Cond.instanceMethod yX12_placed ∈ TB := TB_of (tm6 (List.mem_of_getElem? (i := 13) rfl)) rfl
theorem wd_754 : Cond.selects RX12 yX12_placed yX12_placed ∈ TB := TB_of (List.mem_append_left _ (List.mem_of_getElem? (i := 46) rfl)) rfl
theorem wd_755 : Cond.code yX12_placed cX12_placed 3 (some .int) ∈ TB := TB_of (tm6 (List.mem_of_getElem? (i := 14) rfl)) rfl
theorem wd_756 : Cond.constantLong RX12 228 (Int64.ofInt (-1)) ∈ TB := TB_of (tm6 (List.mem_of_getElem? (i := 6) rfl)) rfl
theorem wd_757 : Cond.methodLink RX12 230 yX12_isOrder ∈ TB := TB_of (tm6 (List.mem_of_getElem? (i := 7) rfl)) rfl
theorem wd_758 : Cond.instanceMethod yX12_isOrder ∈ TB := TB_of (tm6 (List.mem_of_getElem? (i := 9) rfl)) rfl
theorem wd_759 : Cond.selects RX12 yX12_isOrder yX12_isOrder ∈ TB := TB_of (List.mem_append_left _ (List.mem_of_getElem? (i := 45) rfl)) rfl
theorem wd_760 : Cond.code yX12_isOrder cX12_isOrder 4 (some .boolean) ∈ TB := TB_of (tm6 (List.mem_of_getElem? (i := 10) rfl)) rfl
theorem wd_761 : Cond.constantLong RX12 233 (Int64.ofInt (999)) ∈ TB := TB_of (tm6 (List.mem_of_getElem? (i := 19) rfl)) rfl
theorem wd_762 : Cond.methodLink RX12 235 yX12_overAll ∈ TB := TB_of (tm6 (List.mem_of_getElem? (i := 20) rfl)) rfl
theorem wd_763 : Cond.instanceMethod yX12_overAll ∈ TB := TB_of (tm6 (List.mem_of_getElem? (i := 22) rfl)) rfl
theorem wd_764 : Cond.selects RX12 yX12_overAll yX12_overAll ∈ TB := TB_of (List.mem_append_left _ (List.mem_of_getElem? (i := 47) rfl)) rfl
theorem wd_765 : Cond.code yX12_overAll cX12_overAll 3 (some .int) ∈ TB := TB_of (tm6 (List.mem_of_getElem? (i := 23) rfl)) rfl
theorem wd_766 : Cond.methodLink RX12 239 yX12_areCells ∈ TB := TB_of (tm6 (List.mem_of_getElem? (i := 32) rfl)) rfl
theorem wd_767 : Cond.static yX12_areCells ∈ TB := TB_of (tm6 (List.mem_of_getElem? (i := 33) rfl)) rfl
theorem wd_768 : Cond.code yX12_areCells cX12_areCells 1 (some .boolean) ∈ TB := TB_of (tm6 (List.mem_of_getElem? (i := 34) rfl)) rfl
theorem wd_769 : Cond.methodLink RX12 242 yX12_bits ∈ TB := TB_of (tm6 (List.mem_of_getElem? (i := 36) rfl)) rfl
theorem wd_770 : Cond.static yX12_bits ∈ TB := TB_of (tm6 (List.mem_of_getElem? (i := 37) rfl)) rfl
theorem wd_771 : Cond.code yX12_bits cX12_bits 3 (some .int) ∈ TB := TB_of (tm6 (List.mem_of_getElem? (i := 38) rfl)) rfl
theorem wd_772 : Cond.constantLong RX12 245 (Int64.ofInt (15)) ∈ TB := TB_of (tm6 (List.mem_of_getElem? (i := 47) rfl)) rfl
theorem wd_773 : Cond.constantLong RX12 247 (Int64.ofInt (10)) ∈ TB := TB_of (tm6 (List.mem_of_getElem? (i := 60) rfl)) rfl
theorem wd_774 : Cond.constantLong RX12 249 (Int64.ofInt (-1000001)) ∈ TB := TB_of (tm6 (List.mem_of_getElem? (i := 61) rfl)) rfl
theorem wd_775 : Cond.constantLong RX12 251 (Int64.ofInt (30)) ∈ TB := TB_of (tm6 (List.mem_of_getElem? (i := 66) rfl)) rfl
theorem wd_776 : Cond.constantLong RX12 253 (Int64.ofInt (999999)) ∈ TB := TB_of (tm6 (List.mem_of_getElem? (i := 67) rfl)) rfl
theorem wd_777 : Cond.constantLong RX12 255 (Int64.ofInt (16807)) ∈ TB := TB_of (tm6 (List.mem_of_getElem? (i := 68) rfl)) rfl
theorem wd_778 : Cond.constantLong RX12 257 (Int64.ofInt (2147483647)) ∈ TB := TB_of (tm6 (List.mem_of_getElem? (i := 69) rfl)) rfl
theorem wd_779 : Cond.constantLong RX12 259 (Int64.ofInt (5)) ∈ TB := TB_of (tm6 (List.mem_of_getElem? (i := 86) rfl)) rfl
theorem wd_780 : Cond.methodLink RX12 261 yX12_isOf ∈ TB := TB_of (tm6 (List.mem_of_getElem? (i := 87) rfl)) rfl
theorem wd_781 : Cond.static yX12_isOf ∈ TB := TB_of (tm6 (List.mem_of_getElem? (i := 88) rfl)) rfl
theorem wd_782 : Cond.code yX12_isOf cX12_isOf 2 (some .boolean) ∈ TB := TB_of (tm6 (List.mem_of_getElem? (i := 89) rfl)) rfl
theorem wd_783 : Cond.fieldLink RX12 265 "PadPolishModel" "traced" "I" ∈ TB := TB_of (tm4 (List.mem_of_getElem? (i := 223) rfl)) rfl
theorem wd_784 : Cond.methodLink RX12 268 yX12_began ∈ TB := TB_of (tm6 (List.mem_of_getElem? (i := 102) rfl)) rfl
theorem wd_785 : Cond.instanceMethod yX12_began ∈ TB := TB_of (tm6 (List.mem_of_getElem? (i := 104) rfl)) rfl
theorem wd_786 : Cond.selects RX12 yX12_began yX12_began ∈ TB := TB_of (List.mem_append_left _ (List.mem_of_getElem? (i := 50) rfl)) rfl
theorem wd_787 : Cond.code yX12_began cX12_began 2 none ∈ TB := TB_of (tm6 (List.mem_of_getElem? (i := 105) rfl)) rfl
theorem wd_788 : Cond.methodLink RX12 271 yX12_plainSize ∈ TB := TB_of (tm6 (List.mem_of_getElem? (i := 106) rfl)) rfl
theorem wd_789 : Cond.instanceMethod yX12_plainSize ∈ TB := TB_of (tm6 (List.mem_of_getElem? (i := 108) rfl)) rfl
theorem wd_790 : Cond.selects RX12 yX12_plainSize yX12_plainSize ∈ TB := TB_of (List.mem_append_left _ (List.mem_of_getElem? (i := 51) rfl)) rfl
theorem wd_791 : Cond.code yX12_plainSize cX12_plainSize 2 (some .int) ∈ TB := TB_of (tm6 (List.mem_of_getElem? (i := 109) rfl)) rfl
theorem wd_792 : Cond.methodLink RX12 274 yX12_clearSize ∈ TB := TB_of (tm6 (List.mem_of_getElem? (i := 98) rfl)) rfl
theorem wd_793 : Cond.instanceMethod yX12_clearSize ∈ TB := TB_of (tm6 (List.mem_of_getElem? (i := 100) rfl)) rfl
theorem wd_794 : Cond.selects RX12 yX12_clearSize yX12_clearSize ∈ TB := TB_of (List.mem_append_left _ (List.mem_of_getElem? (i := 49) rfl)) rfl
theorem wd_795 : Cond.code yX12_clearSize cX12_clearSize 3 (some .int) ∈ TB := TB_of (tm6 (List.mem_of_getElem? (i := 101) rfl)) rfl
theorem wd_796 : Cond.methodLink RX12 277 yX12_markOf ∈ TB := TB_of (tm6 (List.mem_of_getElem? (i := 110) rfl)) rfl
theorem wd_797 : Cond.instanceMethod yX12_markOf ∈ TB := TB_of (tm6 (List.mem_of_getElem? (i := 112) rfl)) rfl
theorem wd_798 : Cond.selects RX12 yX12_markOf yX12_markOf ∈ TB := TB_of (List.mem_append_left _ (List.mem_of_getElem? (i := 52) rfl)) rfl
theorem wd_799 : Cond.code yX12_markOf cX12_markOf 4 (some .int) ∈ TB := TB_of (tm6 (List.mem_of_getElem? (i := 113) rfl)) rfl
theorem wd_800 : Cond.methodLink RX12 280 yX12_sizeOf ∈ TB := TB_of (tm6 (List.mem_of_getElem? (i := 94) rfl)) rfl
theorem wd_801 : Cond.instanceMethod yX12_sizeOf ∈ TB := TB_of (tm6 (List.mem_of_getElem? (i := 96) rfl)) rfl
theorem wd_802 : Cond.selects RX12 yX12_sizeOf yX12_sizeOf ∈ TB := TB_of (List.mem_append_left _ (List.mem_of_getElem? (i := 48) rfl)) rfl
theorem wd_803 : Cond.code yX12_sizeOf cX12_sizeOf 4 (some .int) ∈ TB := TB_of (tm6 (List.mem_of_getElem? (i := 97) rfl)) rfl
theorem wd_804 : Cond.constant RJ6 265 (Int32.ofInt (1431655765)) ∈ TB := TB_of (tm4 (List.mem_of_getElem? (i := 21) rfl)) rfl
theorem wd_805 : Cond.constant RJ6 266 (Int32.ofInt (858993459)) ∈ TB := TB_of (tm4 (List.mem_of_getElem? (i := 22) rfl)) rfl
theorem wd_806 : Cond.constant RJ6 267 (Int32.ofInt (252645135)) ∈ TB := TB_of (tm4 (List.mem_of_getElem? (i := 23) rfl)) rfl
theorem wd_807 : Cond.methodLink RJxa1e45 1 objectInit ∈ TB := TB_of (tm1 (List.mem_of_getElem? (i := 135) rfl)) rfl
theorem wd_808 : Cond.methodLink RJxc12de 1 yJxa1e45_init_da8c8 ∈ TB := TB_of (tm1 (List.mem_of_getElem? (i := 132) rfl)) rfl
theorem wd_809 : Cond.instanceMethod yJxa1e45_init_da8c8 ∈ TB := TB_of (tm1 (List.mem_of_getElem? (i := 133) rfl)) rfl
theorem wd_810 : Cond.initialized RJxa1e45 ∈ TB := TB_of (tm1 (List.mem_of_getElem? (i := 6) rfl)) rfl
theorem wd_811 : Cond.code yJxa1e45_init_da8c8 cJxa1e45_init_da8c8 1 none ∈ TB := TB_of (tm1 (List.mem_of_getElem? (i := 134) rfl)) rfl
theorem wd_812 : Cond.fieldLink RJxc12de 7 "java/util/AbstractList" "modCount" "I" ∈ TB := TB_of (tm1 (List.mem_of_getElem? (i := 140) rfl)) rfl
theorem wd_813 : Cond.methodLink RJx4a65c 1 yJxc12de_init_da8c8 ∈ TB := TB_of (tm1 (List.mem_of_getElem? (i := 129) rfl)) rfl
theorem wd_814 : Cond.instanceMethod yJxc12de_init_da8c8 ∈ TB := TB_of (tm1 (List.mem_of_getElem? (i := 130) rfl)) rfl
theorem wd_815 : Cond.initialized RJxc12de ∈ TB := TB_of (tm1 (List.mem_of_getElem? (i := 7) rfl)) rfl
theorem wd_816 : Cond.code yJxc12de_init_da8c8 cJxc12de_init_da8c8 1 none ∈ TB := TB_of (tm1 (List.mem_of_getElem? (i := 131) rfl)) rfl
theorem wd_817 : Cond.fieldLink RJx4a65c 9 "java/util/ArrayList" "elementData" "[Ljava/lang/Object;" ∈ TB := TB_of (tm1 (List.mem_of_getElem? (i := 138) rfl)) rfl
theorem wd_818 : Cond.methodLink RJx4a65c 73 yJ8_newLength_cabcc ∈ TB := TB_of (tm2 (List.mem_of_getElem? (i := 201) rfl)) rfl
theorem wd_819 : Cond.static yJ8_newLength_cabcc ∈ TB := TB_of (tm2 (List.mem_of_getElem? (i := 202) rfl)) rfl
theorem wd_820 : Cond.initialized RJ8 ∈ TB := TB_of (tm1 (List.mem_of_getElem? (i := 20) rfl)) rfl
theorem wd_821 : Cond.code yJ8_newLength_cabcc cJ8_newLength_cabcc 4 (some .int) ∈ TB := TB_of (tm2 (List.mem_of_getElem? (i := 203) rfl)) rfl
theorem wd_822 : Cond.methodLink RJx4a65c 66 yJ7_copyOf_1904c ∈ TB := TB_of (tm2 (List.mem_of_getElem? (i := 211) rfl)) rfl
theorem wd_823 : Cond.static yJ7_copyOf_1904c ∈ TB := TB_of (tm2 (List.mem_of_getElem? (i := 212) rfl)) rfl
theorem wd_824 : Cond.code yJ7_copyOf_1904c cJ7_copyOf_1904c 2 (some (.array (.object "java/lang/Object"))) ∈ TB := TB_of (tm2 (List.mem_of_getElem? (i := 213) rfl)) rfl
theorem wd_825 : Cond.methodLink RJx4a65c 79 Lib.Math.max.name ∈ TB := TB_of (tm2 (List.mem_of_getElem? (i := 237) rfl)) rfl
theorem wd_826 : Cond.classLink RJx4a65c 7 "java/lang/Object" ∈ TB := TB_of (tm2 (List.mem_of_getElem? (i := 238) rfl)) rfl
theorem wd_827 : Cond.fieldLink RJx4a65c 48 "java/util/ArrayList" "size" "I" ∈ TB := TB_of (tm1 (List.mem_of_getElem? (i := 139) rfl)) rfl
theorem wd_828 : Cond.methodLink RJx4a65c 69 yJx4a65c_grow_92f84 ∈ TB := TB_of (tm2 (List.mem_of_getElem? (i := 197) rfl)) rfl
theorem wd_829 : Cond.instanceMethod yJx4a65c_grow_92f84 ∈ TB := TB_of (tm2 (List.mem_of_getElem? (i := 199) rfl)) rfl
theorem wd_830 : Cond.selects RJx4a65c yJx4a65c_grow_92f84 yJx4a65c_grow_92f84 ∈ TB := TB_of (List.mem_append_left _ (List.mem_of_getElem? (i := 13) rfl)) rfl
theorem wd_831 : Cond.code yJx4a65c_grow_92f84 cJx4a65c_grow_92f84 4 (some (.array (.object "java/lang/Object"))) ∈ TB := TB_of (tm2 (List.mem_of_getElem? (i := 200) rfl)) rfl
theorem wd_832 : Cond.methodLink RJx4a65c 118 yJ15_checkIndex_7cf53 ∈ TB := TB_of (tm3 (List.mem_of_getElem? (i := 48) rfl)) rfl
theorem wd_833 : Cond.static yJ15_checkIndex_7cf53 ∈ TB := TB_of (tm3 (List.mem_of_getElem? (i := 49) rfl)) rfl
theorem wd_834 : Cond.initialized RJ15 ∈ TB := TB_of (tm1 (List.mem_of_getElem? (i := 21) rfl)) rfl
theorem wd_835 : Cond.code yJ15_checkIndex_7cf53 cJ15_checkIndex_7cf53 2 (some .int) ∈ TB := TB_of (tm3 (List.mem_of_getElem? (i := 50) rfl)) rfl
theorem wd_836 : Cond.methodLink RJx4a65c 123 yJx4a65c_elementData_915e3 ∈ TB := TB_of (tm3 (List.mem_of_getElem? (i := 54) rfl)) rfl
theorem wd_837 : Cond.instanceMethod yJx4a65c_elementData_915e3 ∈ TB := TB_of (tm3 (List.mem_of_getElem? (i := 55) rfl)) rfl
theorem wd_838 : Cond.selects RJx4a65c yJx4a65c_elementData_915e3 yJx4a65c_elementData_915e3 ∈ TB := TB_of (tm3 (List.mem_of_getElem? (i := 56) rfl)) rfl
theorem wd_839 : Cond.code yJx4a65c_elementData_915e3 cJx4a65c_elementData_915e3 2 (some (.object "java/lang/Object")) ∈ TB := TB_of (tm3 (List.mem_of_getElem? (i := 57) rfl)) rfl
theorem wd_840 : Cond.methodLink RJx4a65c 129 yJx4a65c_grow_d5877 ∈ TB := TB_of (tm2 (List.mem_of_getElem? (i := 193) rfl)) rfl
theorem wd_841 : Cond.instanceMethod yJx4a65c_grow_d5877 ∈ TB := TB_of (tm2 (List.mem_of_getElem? (i := 195) rfl)) rfl
theorem wd_842 : Cond.selects RJx4a65c yJx4a65c_grow_d5877 yJx4a65c_grow_d5877 ∈ TB := TB_of (List.mem_append_left _ (List.mem_of_getElem? (i := 12) rfl)) rfl
theorem wd_843 : Cond.code yJx4a65c_grow_d5877 cJx4a65c_grow_d5877 1 (some (.array (.object "java/lang/Object"))) ∈ TB := TB_of (tm2 (List.mem_of_getElem? (i := 196) rfl)) rfl
theorem wd_844 : Cond.sameField "java/util/ArrayList" "java/util/AbstractList" "modCount" "I" ∈ TB := TB_of (tm1 (List.mem_of_getElem? (i := 142) rfl)) rfl
theorem wd_845 : Cond.fieldLink RJx4a65c 63 "java/util/ArrayList" "modCount" "I" ∈ TB := TB_of (tm1 (List.mem_of_getElem? (i := 141) rfl)) rfl
theorem wd_846 : Cond.methodLink RJx4a65c 131 yJx4a65c_add_72be8 ∈ TB := TB_of (tm2 (List.mem_of_getElem? (i := 189) rfl)) rfl
theorem wd_847 : Cond.instanceMethod yJx4a65c_add_72be8 ∈ TB := TB_of (tm2 (List.mem_of_getElem? (i := 191) rfl)) rfl
theorem wd_848 : Cond.selects RJx4a65c yJx4a65c_add_72be8 yJx4a65c_add_72be8 ∈ TB := TB_of (List.mem_append_left _ (List.mem_of_getElem? (i := 11) rfl)) rfl
theorem wd_849 : Cond.code yJx4a65c_add_72be8 cJx4a65c_add_72be8 4 none ∈ TB := TB_of (tm2 (List.mem_of_getElem? (i := 192) rfl)) rfl
theorem wd_850 : Cond.methodLink RJ7 300 yJ7_copyOf_6403c ∈ TB := TB_of (tm2 (List.mem_of_getElem? (i := 231) rfl)) rfl
theorem wd_851 : Cond.static yJ7_copyOf_6403c ∈ TB := TB_of (tm2 (List.mem_of_getElem? (i := 232) rfl)) rfl
theorem wd_852 : Cond.code yJ7_copyOf_6403c cJ7_copyOf_6403c 4 (some (.array (.object "java/lang/Object"))) ∈ TB := TB_of (tm2 (List.mem_of_getElem? (i := 233) rfl)) rfl
theorem wd_853 : Cond.classLink RJ7 2 "java/lang/Object" ∈ TB := TB_of (tm2 (List.mem_of_getElem? (i := 236) rfl)) rfl
theorem wd_854 : Cond.classLink RJ7 110 "[Ljava/lang/Object;" ∈ TB := TB_of (tm2 (List.mem_of_getElem? (i := 234) rfl)) rfl
theorem wd_855 : Cond.methodLink RJ7 304 Lib.Math.min.name ∈ TB := TB_of (tm2 (List.mem_of_getElem? (i := 125) rfl)) rfl
theorem wd_856 : Cond.methodLink RJ7 150 arraycopyName ∈ TB := TB_of (tm2 (List.mem_of_getElem? (i := 128) rfl)) rfl
theorem wd_857 : Cond.classLink RJ7 317 "[I" ∈ TB := TB_of (tm2 (List.mem_of_getElem? (i := 124) rfl)) rfl
theorem wd_858 : Cond.methodLink RJ15 105 yJ3_checkIndex_8e157 ∈ TB := TB_of (tm3 (List.mem_of_getElem? (i := 51) rfl)) rfl
theorem wd_859 : Cond.static yJ3_checkIndex_8e157 ∈ TB := TB_of (tm3 (List.mem_of_getElem? (i := 52) rfl)) rfl
theorem wd_860 : Cond.initialized RJ3 ∈ TB := TB_of (tm1 (List.mem_of_getElem? (i := 22) rfl)) rfl
theorem wd_861 : Cond.code yJ3_checkIndex_8e157 cJ3_checkIndex_8e157 3 (some .int) ∈ TB := TB_of (tm3 (List.mem_of_getElem? (i := 53) rfl)) rfl
theorem wd_862 : Cond.methodLink RJ8 194 Lib.Math.max.name ∈ TB := TB_of (tm2 (List.mem_of_getElem? (i := 204) rfl)) rfl
theorem wd_863 : Cond.constant RJ8 200 (Int32.ofInt (2147483639)) ∈ TB := TB_of (tm2 (List.mem_of_getElem? (i := 207) rfl)) rfl
theorem wd_864 : Cond.methodLink RJ8 201 yJ8_hugeLength_7cf53 ∈ TB := TB_of (tm2 (List.mem_of_getElem? (i := 208) rfl)) rfl
theorem wd_865 : Cond.static yJ8_hugeLength_7cf53 ∈ TB := TB_of (tm2 (List.mem_of_getElem? (i := 209) rfl)) rfl
theorem wd_866 : Cond.code yJ8_hugeLength_7cf53 cJ8_hugeLength_7cf53 3 (some .int) ∈ TB := TB_of (tm2 (List.mem_of_getElem? (i := 210) rfl)) rfl
theorem wd_867 : Cond.classLink RL 7 RX11 ∈ TB := TB_of (tm1 (List.mem_of_getElem? (i := 24) rfl)) rfl
theorem wd_868 : Cond.instantiable RX11 16 ∈ TB := TB_of (tm1 (List.mem_of_getElem? (i := 25) rfl)) rfl
theorem wd_869 : Cond.methodLink RL 9 yX11_init ∈ TB := TB_of (tm1 (List.mem_of_getElem? (i := 26) rfl)) rfl
theorem wd_870 : Cond.instanceMethod yX11_init ∈ TB := TB_of (tm1 (List.mem_of_getElem? (i := 27) rfl)) rfl
theorem wd_871 : Cond.code yX11_init cX11_init 2 none ∈ TB := TB_of (tm1 (List.mem_of_getElem? (i := 28) rfl)) rfl
theorem wd_872 : Cond.classLink RL 10 RX12 ∈ TB := TB_of (tm4 (List.mem_of_getElem? (i := 194) rfl)) rfl
theorem wd_873 : Cond.instantiable RX12 24 ∈ TB := TB_of (tm4 (List.mem_of_getElem? (i := 195) rfl)) rfl
theorem wd_874 : Cond.methodLink RL 12 yX12_init ∈ TB := TB_of (tm4 (List.mem_of_getElem? (i := 196) rfl)) rfl
theorem wd_875 : Cond.instanceMethod yX12_init ∈ TB := TB_of (tm4 (List.mem_of_getElem? (i := 197) rfl)) rfl
theorem wd_876 : Cond.code yX12_init cX12_init 1 none ∈ TB := TB_of (tm4 (List.mem_of_getElem? (i := 198) rfl)) rfl
theorem wd_877 : Cond.methodLink RL 13 yX11_row ∈ TB := TB_of (tm1 (List.mem_of_getElem? (i := 233) rfl)) rfl
theorem wd_878 : Cond.instanceMethod yX11_row ∈ TB := TB_of (tm1 (List.mem_of_getElem? (i := 234) rfl)) rfl
theorem wd_879 : Cond.selects RX11 yX11_row yX11_row ∈ TB := TB_of (tm1 (List.mem_of_getElem? (i := 235) rfl)) rfl
theorem wd_880 : Cond.code yX11_row cX11_row 4 (some .int) ∈ TB := TB_of (tm1 (List.mem_of_getElem? (i := 236) rfl)) rfl
theorem wd_881 : Cond.methodLink RL 17 yX12_row ∈ TB := TB_of (tm5 (List.mem_of_getElem? (i := 33) rfl)) rfl
theorem wd_882 : Cond.instanceMethod yX12_row ∈ TB := TB_of (tm5 (List.mem_of_getElem? (i := 34) rfl)) rfl
theorem wd_883 : Cond.selects RX12 yX12_row yX12_row ∈ TB := TB_of (tm5 (List.mem_of_getElem? (i := 35) rfl)) rfl
theorem wd_884 : Cond.code yX12_row cX12_row 5 (some .int) ∈ TB := TB_of (tm5 (List.mem_of_getElem? (i := 36) rfl)) rfl
theorem wd_885 : Cond.methodLink RL 18 yX11_set ∈ TB := TB_of (tm2 (List.mem_of_getElem? (i := 20) rfl)) rfl
theorem wd_886 : Cond.instanceMethod yX11_set ∈ TB := TB_of (tm2 (List.mem_of_getElem? (i := 21) rfl)) rfl
theorem wd_887 : Cond.selects RX11 yX11_set yX11_set ∈ TB := TB_of (tm2 (List.mem_of_getElem? (i := 22) rfl)) rfl
theorem wd_888 : Cond.code yX11_set cX11_set 5 (some .int) ∈ TB := TB_of (tm2 (List.mem_of_getElem? (i := 23) rfl)) rfl
theorem wd_889 : Cond.methodLink RL 21 yX12_set ∈ TB := TB_of (tm5 (List.mem_of_getElem? (i := 51) rfl)) rfl
theorem wd_890 : Cond.instanceMethod yX12_set ∈ TB := TB_of (tm5 (List.mem_of_getElem? (i := 52) rfl)) rfl
theorem wd_891 : Cond.selects RX12 yX12_set yX12_set ∈ TB := TB_of (tm5 (List.mem_of_getElem? (i := 53) rfl)) rfl
theorem wd_892 : Cond.code yX12_set cX12_set 4 (some .int) ∈ TB := TB_of (tm5 (List.mem_of_getElem? (i := 54) rfl)) rfl
theorem wd_893 : Cond.methodLink RL 22 yX11_copy ∈ TB := TB_of (tm2 (List.mem_of_getElem? (i := 36) rfl)) rfl
theorem wd_894 : Cond.instanceMethod yX11_copy ∈ TB := TB_of (tm2 (List.mem_of_getElem? (i := 37) rfl)) rfl
theorem wd_895 : Cond.selects RX11 yX11_copy yX11_copy ∈ TB := TB_of (tm2 (List.mem_of_getElem? (i := 38) rfl)) rfl
theorem wd_896 : Cond.code yX11_copy cX11_copy 8 (some .int) ∈ TB := TB_of (tm2 (List.mem_of_getElem? (i := 39) rfl)) rfl
theorem wd_897 : Cond.methodLink RL 26 yX12_copy ∈ TB := TB_of (tm5 (List.mem_of_getElem? (i := 55) rfl)) rfl
theorem wd_898 : Cond.instanceMethod yX12_copy ∈ TB := TB_of (tm5 (List.mem_of_getElem? (i := 56) rfl)) rfl
theorem wd_899 : Cond.selects RX12 yX12_copy yX12_copy ∈ TB := TB_of (tm5 (List.mem_of_getElem? (i := 57) rfl)) rfl
theorem wd_900 : Cond.code yX12_copy cX12_copy 9 (some .int) ∈ TB := TB_of (tm5 (List.mem_of_getElem? (i := 58) rfl)) rfl
theorem wd_901 : Cond.methodLink RL 27 yX11_drop ∈ TB := TB_of (tm2 (List.mem_of_getElem? (i := 43) rfl)) rfl
theorem wd_902 : Cond.instanceMethod yX11_drop ∈ TB := TB_of (tm2 (List.mem_of_getElem? (i := 44) rfl)) rfl
theorem wd_903 : Cond.selects RX11 yX11_drop yX11_drop ∈ TB := TB_of (tm2 (List.mem_of_getElem? (i := 45) rfl)) rfl
theorem wd_904 : Cond.code yX11_drop cX11_drop 4 (some .int) ∈ TB := TB_of (tm2 (List.mem_of_getElem? (i := 46) rfl)) rfl
theorem wd_905 : Cond.methodLink RL 31 yX12_drop ∈ TB := TB_of (tm5 (List.mem_of_getElem? (i := 59) rfl)) rfl
theorem wd_906 : Cond.instanceMethod yX12_drop ∈ TB := TB_of (tm5 (List.mem_of_getElem? (i := 60) rfl)) rfl
theorem wd_907 : Cond.selects RX12 yX12_drop yX12_drop ∈ TB := TB_of (tm5 (List.mem_of_getElem? (i := 61) rfl)) rfl
theorem wd_908 : Cond.code yX12_drop cX12_drop 2 (some .int) ∈ TB := TB_of (tm5 (List.mem_of_getElem? (i := 62) rfl)) rfl
theorem wd_909 : Cond.methodLink RL 32 yX11_feed ∈ TB := TB_of (tm2 (List.mem_of_getElem? (i := 47) rfl)) rfl
theorem wd_910 : Cond.instanceMethod yX11_feed ∈ TB := TB_of (tm2 (List.mem_of_getElem? (i := 48) rfl)) rfl
theorem wd_911 : Cond.selects RX11 yX11_feed yX11_feed ∈ TB := TB_of (tm2 (List.mem_of_getElem? (i := 49) rfl)) rfl
theorem wd_912 : Cond.code yX11_feed cX11_feed 2 (some .int) ∈ TB := TB_of (tm2 (List.mem_of_getElem? (i := 50) rfl)) rfl
theorem wd_913 : Cond.methodLink RL 35 yX12_feed ∈ TB := TB_of (tm5 (List.mem_of_getElem? (i := 63) rfl)) rfl
theorem wd_914 : Cond.instanceMethod yX12_feed ∈ TB := TB_of (tm5 (List.mem_of_getElem? (i := 64) rfl)) rfl
theorem wd_915 : Cond.selects RX12 yX12_feed yX12_feed ∈ TB := TB_of (tm5 (List.mem_of_getElem? (i := 65) rfl)) rfl
theorem wd_916 : Cond.code yX12_feed cX12_feed 2 (some .int) ∈ TB := TB_of (tm5 (List.mem_of_getElem? (i := 66) rfl)) rfl
theorem wd_917 : Cond.methodLink RL 36 yX11_table ∈ TB := TB_of (tm2 (List.mem_of_getElem? (i := 56) rfl)) rfl
theorem wd_918 : Cond.instanceMethod yX11_table ∈ TB := TB_of (tm2 (List.mem_of_getElem? (i := 57) rfl)) rfl
theorem wd_919 : Cond.selects RX11 yX11_table yX11_table ∈ TB := TB_of (tm2 (List.mem_of_getElem? (i := 58) rfl)) rfl
theorem wd_920 : Cond.code yX11_table cX11_table 3 (some .int) ∈ TB := TB_of (tm2 (List.mem_of_getElem? (i := 59) rfl)) rfl
theorem wd_921 : Cond.methodLink RL 40 yX12_table ∈ TB := TB_of (tm5 (List.mem_of_getElem? (i := 73) rfl)) rfl
theorem wd_922 : Cond.instanceMethod yX12_table ∈ TB := TB_of (tm5 (List.mem_of_getElem? (i := 74) rfl)) rfl
theorem wd_923 : Cond.selects RX12 yX12_table yX12_table ∈ TB := TB_of (tm5 (List.mem_of_getElem? (i := 75) rfl)) rfl
theorem wd_924 : Cond.code yX12_table cX12_table 4 (some .int) ∈ TB := TB_of (tm5 (List.mem_of_getElem? (i := 76) rfl)) rfl
theorem wd_925 : Cond.methodLink RL 41 yX11_fault ∈ TB := TB_of (tm3 (List.mem_of_getElem? (i := 8) rfl)) rfl
theorem wd_926 : Cond.instanceMethod yX11_fault ∈ TB := TB_of (tm3 (List.mem_of_getElem? (i := 9) rfl)) rfl
theorem wd_927 : Cond.selects RX11 yX11_fault yX11_fault ∈ TB := TB_of (tm3 (List.mem_of_getElem? (i := 10) rfl)) rfl
theorem wd_928 : Cond.code yX11_fault cX11_fault 1 (some .int) ∈ TB := TB_of (tm3 (List.mem_of_getElem? (i := 11) rfl)) rfl
theorem wd_929 : Cond.methodLink RL 44 yX12_fault ∈ TB := TB_of (tm5 (List.mem_of_getElem? (i := 69) rfl)) rfl
theorem wd_930 : Cond.instanceMethod yX12_fault ∈ TB := TB_of (tm5 (List.mem_of_getElem? (i := 70) rfl)) rfl
theorem wd_931 : Cond.selects RX12 yX12_fault yX12_fault ∈ TB := TB_of (tm5 (List.mem_of_getElem? (i := 71) rfl)) rfl
theorem wd_932 : Cond.code yX12_fault cX12_fault 1 (some .int) ∈ TB := TB_of (tm5 (List.mem_of_getElem? (i := 72) rfl)) rfl
theorem wd_933 : Cond.methodLink RL 45 yX11_undo ∈ TB := TB_of (tm3 (List.mem_of_getElem? (i := 12) rfl)) rfl
theorem wd_934 : Cond.instanceMethod yX11_undo ∈ TB := TB_of (tm3 (List.mem_of_getElem? (i := 13) rfl)) rfl
theorem wd_935 : Cond.selects RX11 yX11_undo yX11_undo ∈ TB := TB_of (tm3 (List.mem_of_getElem? (i := 14) rfl)) rfl
theorem wd_936 : Cond.code yX11_undo cX11_undo 1 (some .int) ∈ TB := TB_of (tm3 (List.mem_of_getElem? (i := 15) rfl)) rfl
theorem wd_937 : Cond.methodLink RL 48 yX12_undo ∈ TB := TB_of (tm5 (List.mem_of_getElem? (i := 197) rfl)) rfl
theorem wd_938 : Cond.instanceMethod yX12_undo ∈ TB := TB_of (tm5 (List.mem_of_getElem? (i := 198) rfl)) rfl
theorem wd_939 : Cond.selects RX12 yX12_undo yX12_undo ∈ TB := TB_of (tm5 (List.mem_of_getElem? (i := 199) rfl)) rfl
theorem wd_940 : Cond.code yX12_undo cX12_undo 2 (some .int) ∈ TB := TB_of (tm5 (List.mem_of_getElem? (i := 200) rfl)) rfl
theorem wd_941 : Cond.methodLink RL 49 yX11_charge ∈ TB := TB_of (tm3 (List.mem_of_getElem? (i := 22) rfl)) rfl
theorem wd_942 : Cond.instanceMethod yX11_charge ∈ TB := TB_of (tm3 (List.mem_of_getElem? (i := 23) rfl)) rfl
theorem wd_943 : Cond.selects RX11 yX11_charge yX11_charge ∈ TB := TB_of (tm3 (List.mem_of_getElem? (i := 24) rfl)) rfl
theorem wd_944 : Cond.code yX11_charge cX11_charge 3 (some .int) ∈ TB := TB_of (tm3 (List.mem_of_getElem? (i := 25) rfl)) rfl
theorem wd_945 : Cond.methodLink RL 53 yX12_charge ∈ TB := TB_of (tm5 (List.mem_of_getElem? (i := 129) rfl)) rfl
theorem wd_946 : Cond.instanceMethod yX12_charge ∈ TB := TB_of (tm5 (List.mem_of_getElem? (i := 130) rfl)) rfl
theorem wd_947 : Cond.selects RX12 yX12_charge yX12_charge ∈ TB := TB_of (tm5 (List.mem_of_getElem? (i := 131) rfl)) rfl
theorem wd_948 : Cond.code yX12_charge cX12_charge 4 (some .int) ∈ TB := TB_of (tm5 (List.mem_of_getElem? (i := 132) rfl)) rfl
theorem wd_949 : Cond.methodLink RL 54 yX11_make ∈ TB := TB_of (tm3 (List.mem_of_getElem? (i := 36) rfl)) rfl
theorem wd_950 : Cond.instanceMethod yX11_make ∈ TB := TB_of (tm3 (List.mem_of_getElem? (i := 37) rfl)) rfl
theorem wd_951 : Cond.selects RX11 yX11_make yX11_make ∈ TB := TB_of (tm3 (List.mem_of_getElem? (i := 38) rfl)) rfl
theorem wd_952 : Cond.code yX11_make cX11_make 3 (some .int) ∈ TB := TB_of (tm3 (List.mem_of_getElem? (i := 39) rfl)) rfl
theorem wd_953 : Cond.methodLink RL 57 yX12_make ∈ TB := TB_of (tm5 (List.mem_of_getElem? (i := 146) rfl)) rfl
theorem wd_954 : Cond.instanceMethod yX12_make ∈ TB := TB_of (tm5 (List.mem_of_getElem? (i := 147) rfl)) rfl
theorem wd_955 : Cond.selects RX12 yX12_make yX12_make ∈ TB := TB_of (tm5 (List.mem_of_getElem? (i := 148) rfl)) rfl
theorem wd_956 : Cond.code yX12_make cX12_make 2 (some .int) ∈ TB := TB_of (tm5 (List.mem_of_getElem? (i := 149) rfl)) rfl
theorem wd_957 : Cond.methodLink RL 58 yX11_stand ∈ TB := TB_of (tm3 (List.mem_of_getElem? (i := 138) rfl)) rfl
theorem wd_958 : Cond.instanceMethod yX11_stand ∈ TB := TB_of (tm3 (List.mem_of_getElem? (i := 139) rfl)) rfl
theorem wd_959 : Cond.selects RX11 yX11_stand yX11_stand ∈ TB := TB_of (tm3 (List.mem_of_getElem? (i := 140) rfl)) rfl
theorem wd_960 : Cond.code yX11_stand cX11_stand 2 (some .int) ∈ TB := TB_of (tm3 (List.mem_of_getElem? (i := 141) rfl)) rfl
theorem wd_961 : Cond.methodLink RL 61 yX12_stand ∈ TB := TB_of (tm5 (List.mem_of_getElem? (i := 176) rfl)) rfl
theorem wd_962 : Cond.instanceMethod yX12_stand ∈ TB := TB_of (tm5 (List.mem_of_getElem? (i := 177) rfl)) rfl
theorem wd_963 : Cond.selects RX12 yX12_stand yX12_stand ∈ TB := TB_of (tm5 (List.mem_of_getElem? (i := 178) rfl)) rfl
theorem wd_964 : Cond.code yX12_stand cX12_stand 2 (some .int) ∈ TB := TB_of (tm5 (List.mem_of_getElem? (i := 179) rfl)) rfl
theorem wd_965 : Cond.methodLink RL 62 yX11_rest ∈ TB := TB_of (tm3 (List.mem_of_getElem? (i := 149) rfl)) rfl
theorem wd_966 : Cond.instanceMethod yX11_rest ∈ TB := TB_of (tm3 (List.mem_of_getElem? (i := 150) rfl)) rfl
theorem wd_967 : Cond.selects RX11 yX11_rest yX11_rest ∈ TB := TB_of (tm3 (List.mem_of_getElem? (i := 151) rfl)) rfl
theorem wd_968 : Cond.code yX11_rest cX11_rest 1 (some .int) ∈ TB := TB_of (tm3 (List.mem_of_getElem? (i := 152) rfl)) rfl
theorem wd_969 : Cond.methodLink RL 65 yX12_rest ∈ TB := TB_of (tm5 (List.mem_of_getElem? (i := 187) rfl)) rfl
theorem wd_970 : Cond.instanceMethod yX12_rest ∈ TB := TB_of (tm5 (List.mem_of_getElem? (i := 188) rfl)) rfl
theorem wd_971 : Cond.selects RX12 yX12_rest yX12_rest ∈ TB := TB_of (tm5 (List.mem_of_getElem? (i := 189) rfl)) rfl
theorem wd_972 : Cond.code yX12_rest cX12_rest 1 (some .int) ∈ TB := TB_of (tm5 (List.mem_of_getElem? (i := 190) rfl)) rfl
theorem wd_973 : Cond.methodLink RL 66 yX11_cell ∈ TB := TB_of (tm3 (List.mem_of_getElem? (i := 162) rfl)) rfl
theorem wd_974 : Cond.instanceMethod yX11_cell ∈ TB := TB_of (tm3 (List.mem_of_getElem? (i := 163) rfl)) rfl
theorem wd_975 : Cond.selects RX11 yX11_cell yX11_cell ∈ TB := TB_of (tm3 (List.mem_of_getElem? (i := 164) rfl)) rfl
theorem wd_976 : Cond.code yX11_cell cX11_cell 3 (some .int) ∈ TB := TB_of (tm3 (List.mem_of_getElem? (i := 165) rfl)) rfl
theorem wd_977 : Cond.methodLink RL 69 yX12_cell ∈ TB := TB_of (tm5 (List.mem_of_getElem? (i := 201) rfl)) rfl
theorem wd_978 : Cond.instanceMethod yX12_cell ∈ TB := TB_of (tm5 (List.mem_of_getElem? (i := 202) rfl)) rfl
theorem wd_979 : Cond.selects RX12 yX12_cell yX12_cell ∈ TB := TB_of (tm5 (List.mem_of_getElem? (i := 203) rfl)) rfl
theorem wd_980 : Cond.code yX12_cell cX12_cell 5 (some .int) ∈ TB := TB_of (tm5 (List.mem_of_getElem? (i := 204) rfl)) rfl
theorem wd_981 : Cond.methodLink RL 70 yX11_path ∈ TB := TB_of (tm3 (List.mem_of_getElem? (i := 182) rfl)) rfl
theorem wd_982 : Cond.instanceMethod yX11_path ∈ TB := TB_of (tm3 (List.mem_of_getElem? (i := 183) rfl)) rfl
theorem wd_983 : Cond.selects RX11 yX11_path yX11_path ∈ TB := TB_of (tm3 (List.mem_of_getElem? (i := 184) rfl)) rfl
theorem wd_984 : Cond.code yX11_path cX11_path 4 (some .int) ∈ TB := TB_of (tm3 (List.mem_of_getElem? (i := 185) rfl)) rfl
theorem wd_985 : Cond.methodLink RL 73 yX12_path ∈ TB := TB_of (tm5 (List.mem_of_getElem? (i := 210) rfl)) rfl
theorem wd_986 : Cond.instanceMethod yX12_path ∈ TB := TB_of (tm5 (List.mem_of_getElem? (i := 211) rfl)) rfl
theorem wd_987 : Cond.selects RX12 yX12_path yX12_path ∈ TB := TB_of (tm5 (List.mem_of_getElem? (i := 212) rfl)) rfl
theorem wd_988 : Cond.code yX12_path cX12_path 3 (some .int) ∈ TB := TB_of (tm5 (List.mem_of_getElem? (i := 213) rfl)) rfl
theorem wd_989 : Cond.methodLink RL 74 yX11_pad ∈ TB := TB_of (tm3 (List.mem_of_getElem? (i := 187) rfl)) rfl
theorem wd_990 : Cond.instanceMethod yX11_pad ∈ TB := TB_of (tm3 (List.mem_of_getElem? (i := 188) rfl)) rfl
theorem wd_991 : Cond.selects RX11 yX11_pad yX11_pad ∈ TB := TB_of (tm3 (List.mem_of_getElem? (i := 189) rfl)) rfl
theorem wd_992 : Cond.code yX11_pad cX11_pad 2 (some .int) ∈ TB := TB_of (tm3 (List.mem_of_getElem? (i := 190) rfl)) rfl
theorem wd_993 : Cond.methodLink RL 77 yX12_pad ∈ TB := TB_of (tm5 (List.mem_of_getElem? (i := 214) rfl)) rfl
theorem wd_994 : Cond.instanceMethod yX12_pad ∈ TB := TB_of (tm5 (List.mem_of_getElem? (i := 215) rfl)) rfl
theorem wd_995 : Cond.selects RX12 yX12_pad yX12_pad ∈ TB := TB_of (tm5 (List.mem_of_getElem? (i := 216) rfl)) rfl
theorem wd_996 : Cond.code yX12_pad cX12_pad 2 (some .int) ∈ TB := TB_of (tm5 (List.mem_of_getElem? (i := 217) rfl)) rfl
theorem wd_997 : Cond.methodLink RL 78 yX11_ahead ∈ TB := TB_of (tm3 (List.mem_of_getElem? (i := 191) rfl)) rfl
theorem wd_998 : Cond.instanceMethod yX11_ahead ∈ TB := TB_of (tm3 (List.mem_of_getElem? (i := 192) rfl)) rfl
theorem wd_999 : Cond.selects RX11 yX11_ahead yX11_ahead ∈ TB := TB_of (tm3 (List.mem_of_getElem? (i := 193) rfl)) rfl
theorem wd_1000 : Cond.code yX11_ahead cX11_ahead 4 (some .int) ∈ TB := TB_of (tm3 (List.mem_of_getElem? (i := 194) rfl)) rfl
theorem wd_1001 : Cond.methodLink RL 81 yX12_ahead ∈ TB := TB_of (tm5 (List.mem_of_getElem? (i := 218) rfl)) rfl
theorem wd_1002 : Cond.instanceMethod yX12_ahead ∈ TB := TB_of (tm5 (List.mem_of_getElem? (i := 219) rfl)) rfl
theorem wd_1003 : Cond.selects RX12 yX12_ahead yX12_ahead ∈ TB := TB_of (tm5 (List.mem_of_getElem? (i := 220) rfl)) rfl
theorem wd_1004 : Cond.code yX12_ahead cX12_ahead 4 (some .int) ∈ TB := TB_of (tm5 (List.mem_of_getElem? (i := 221) rfl)) rfl
theorem wd_1005 : Cond.methodLink RL 82 yX11_uneven ∈ TB := TB_of (tm3 (List.mem_of_getElem? (i := 204) rfl)) rfl
theorem wd_1006 : Cond.instanceMethod yX11_uneven ∈ TB := TB_of (tm3 (List.mem_of_getElem? (i := 205) rfl)) rfl
theorem wd_1007 : Cond.selects RX11 yX11_uneven yX11_uneven ∈ TB := TB_of (tm3 (List.mem_of_getElem? (i := 206) rfl)) rfl
theorem wd_1008 : Cond.code yX11_uneven cX11_uneven 2 (some .int) ∈ TB := TB_of (tm3 (List.mem_of_getElem? (i := 207) rfl)) rfl
theorem wd_1009 : Cond.methodLink RL 85 yX12_uneven ∈ TB := TB_of (tm5 (List.mem_of_getElem? (i := 235) rfl)) rfl
theorem wd_1010 : Cond.instanceMethod yX12_uneven ∈ TB := TB_of (tm5 (List.mem_of_getElem? (i := 236) rfl)) rfl
theorem wd_1011 : Cond.selects RX12 yX12_uneven yX12_uneven ∈ TB := TB_of (tm5 (List.mem_of_getElem? (i := 237) rfl)) rfl
theorem wd_1012 : Cond.code yX12_uneven cX12_uneven 2 (some .int) ∈ TB := TB_of (tm5 (List.mem_of_getElem? (i := 238) rfl)) rfl
theorem wd_1013 : Cond.methodLink RL 86 yX11_order ∈ TB := TB_of (tm3 (List.mem_of_getElem? (i := 216) rfl)) rfl
theorem wd_1014 : Cond.instanceMethod yX11_order ∈ TB := TB_of (tm3 (List.mem_of_getElem? (i := 217) rfl)) rfl
theorem wd_1015 : Cond.selects RX11 yX11_order yX11_order ∈ TB := TB_of (tm3 (List.mem_of_getElem? (i := 218) rfl)) rfl
theorem wd_1016 : Cond.code yX11_order cX11_order 3 (some .int) ∈ TB := TB_of (tm3 (List.mem_of_getElem? (i := 219) rfl)) rfl
theorem wd_1017 : Cond.methodLink RL 89 yX12_order ∈ TB := TB_of (tm6 (List.mem_of_getElem? (i := 2) rfl)) rfl
theorem wd_1018 : Cond.instanceMethod yX12_order ∈ TB := TB_of (tm6 (List.mem_of_getElem? (i := 3) rfl)) rfl
theorem wd_1019 : Cond.selects RX12 yX12_order yX12_order ∈ TB := TB_of (tm6 (List.mem_of_getElem? (i := 4) rfl)) rfl
theorem wd_1020 : Cond.code yX12_order cX12_order 7 (some .int) ∈ TB := TB_of (tm6 (List.mem_of_getElem? (i := 5) rfl)) rfl
theorem wd_1021 : Cond.methodLink RL 90 yX11_enough ∈ TB := TB_of (tm3 (List.mem_of_getElem? (i := 234) rfl)) rfl
theorem wd_1022 : Cond.instanceMethod yX11_enough ∈ TB := TB_of (tm3 (List.mem_of_getElem? (i := 235) rfl)) rfl
theorem wd_1023 : Cond.selects RX11 yX11_enough yX11_enough ∈ TB := TB_of (tm3 (List.mem_of_getElem? (i := 236) rfl)) rfl
theorem wd_1024 : Cond.code yX11_enough cX11_enough 4 (some .int) ∈ TB := TB_of (tm3 (List.mem_of_getElem? (i := 237) rfl)) rfl
theorem wd_1025 : Cond.methodLink RL 93 yX12_enough ∈ TB := TB_of (tm6 (List.mem_of_getElem? (i := 15) rfl)) rfl
theorem wd_1026 : Cond.instanceMethod yX12_enough ∈ TB := TB_of (tm6 (List.mem_of_getElem? (i := 16) rfl)) rfl
theorem wd_1027 : Cond.selects RX12 yX12_enough yX12_enough ∈ TB := TB_of (tm6 (List.mem_of_getElem? (i := 17) rfl)) rfl
theorem wd_1028 : Cond.code yX12_enough cX12_enough 6 (some .int) ∈ TB := TB_of (tm6 (List.mem_of_getElem? (i := 18) rfl)) rfl
theorem wd_1029 : Cond.methodLink RL 94 yX11_wetFor ∈ TB := TB_of (tm4 (List.mem_of_getElem? (i := 6) rfl)) rfl
theorem wd_1030 : Cond.instanceMethod yX11_wetFor ∈ TB := TB_of (tm4 (List.mem_of_getElem? (i := 7) rfl)) rfl
theorem wd_1031 : Cond.selects RX11 yX11_wetFor yX11_wetFor ∈ TB := TB_of (tm4 (List.mem_of_getElem? (i := 8) rfl)) rfl
theorem wd_1032 : Cond.code yX11_wetFor cX11_wetFor 5 (some .int) ∈ TB := TB_of (tm4 (List.mem_of_getElem? (i := 9) rfl)) rfl
theorem wd_1033 : Cond.methodLink RL 97 yX12_wetFor ∈ TB := TB_of (tm6 (List.mem_of_getElem? (i := 24) rfl)) rfl
theorem wd_1034 : Cond.instanceMethod yX12_wetFor ∈ TB := TB_of (tm6 (List.mem_of_getElem? (i := 25) rfl)) rfl
theorem wd_1035 : Cond.selects RX12 yX12_wetFor yX12_wetFor ∈ TB := TB_of (tm6 (List.mem_of_getElem? (i := 26) rfl)) rfl
theorem wd_1036 : Cond.code yX12_wetFor cX12_wetFor 7 (some .int) ∈ TB := TB_of (tm6 (List.mem_of_getElem? (i := 27) rfl)) rfl
theorem wd_1037 : Cond.methodLink RL 98 yX11_over ∈ TB := TB_of (tm4 (List.mem_of_getElem? (i := 14) rfl)) rfl
theorem wd_1038 : Cond.instanceMethod yX11_over ∈ TB := TB_of (tm4 (List.mem_of_getElem? (i := 15) rfl)) rfl
theorem wd_1039 : Cond.selects RX11 yX11_over yX11_over ∈ TB := TB_of (tm4 (List.mem_of_getElem? (i := 16) rfl)) rfl
theorem wd_1040 : Cond.code yX11_over cX11_over 7 (some .int) ∈ TB := TB_of (tm4 (List.mem_of_getElem? (i := 17) rfl)) rfl
theorem wd_1041 : Cond.methodLink RL 101 yX12_over ∈ TB := TB_of (tm6 (List.mem_of_getElem? (i := 28) rfl)) rfl
theorem wd_1042 : Cond.instanceMethod yX12_over ∈ TB := TB_of (tm6 (List.mem_of_getElem? (i := 29) rfl)) rfl
theorem wd_1043 : Cond.selects RX12 yX12_over yX12_over ∈ TB := TB_of (tm6 (List.mem_of_getElem? (i := 30) rfl)) rfl
theorem wd_1044 : Cond.code yX12_over cX12_over 7 (some .int) ∈ TB := TB_of (tm6 (List.mem_of_getElem? (i := 31) rfl)) rfl
theorem wd_1045 : Cond.methodLink RL 102 yX11_goOn ∈ TB := TB_of (tm4 (List.mem_of_getElem? (i := 24) rfl)) rfl
theorem wd_1046 : Cond.instanceMethod yX11_goOn ∈ TB := TB_of (tm4 (List.mem_of_getElem? (i := 25) rfl)) rfl
theorem wd_1047 : Cond.selects RX11 yX11_goOn yX11_goOn ∈ TB := TB_of (tm4 (List.mem_of_getElem? (i := 26) rfl)) rfl
theorem wd_1048 : Cond.code yX11_goOn cX11_goOn 2 (some .int) ∈ TB := TB_of (tm4 (List.mem_of_getElem? (i := 27) rfl)) rfl
theorem wd_1049 : Cond.methodLink RL 105 yX12_goOn ∈ TB := TB_of (tm6 (List.mem_of_getElem? (i := 39) rfl)) rfl
theorem wd_1050 : Cond.instanceMethod yX12_goOn ∈ TB := TB_of (tm6 (List.mem_of_getElem? (i := 40) rfl)) rfl
theorem wd_1051 : Cond.selects RX12 yX12_goOn yX12_goOn ∈ TB := TB_of (tm6 (List.mem_of_getElem? (i := 41) rfl)) rfl
theorem wd_1052 : Cond.code yX12_goOn cX12_goOn 2 (some .int) ∈ TB := TB_of (tm6 (List.mem_of_getElem? (i := 42) rfl)) rfl
theorem wd_1053 : Cond.methodLink RL 106 yX11_done ∈ TB := TB_of (tm4 (List.mem_of_getElem? (i := 28) rfl)) rfl
theorem wd_1054 : Cond.instanceMethod yX11_done ∈ TB := TB_of (tm4 (List.mem_of_getElem? (i := 29) rfl)) rfl
theorem wd_1055 : Cond.selects RX11 yX11_done yX11_done ∈ TB := TB_of (tm4 (List.mem_of_getElem? (i := 30) rfl)) rfl
theorem wd_1056 : Cond.code yX11_done cX11_done 8 (some .int) ∈ TB := TB_of (tm4 (List.mem_of_getElem? (i := 31) rfl)) rfl
theorem wd_1057 : Cond.methodLink RL 109 yX12_done ∈ TB := TB_of (tm6 (List.mem_of_getElem? (i := 43) rfl)) rfl
theorem wd_1058 : Cond.instanceMethod yX12_done ∈ TB := TB_of (tm6 (List.mem_of_getElem? (i := 44) rfl)) rfl
theorem wd_1059 : Cond.selects RX12 yX12_done yX12_done ∈ TB := TB_of (tm6 (List.mem_of_getElem? (i := 45) rfl)) rfl
theorem wd_1060 : Cond.code yX12_done cX12_done 9 (some .int) ∈ TB := TB_of (tm6 (List.mem_of_getElem? (i := 46) rfl)) rfl
theorem wd_1061 : Cond.methodLink RL 110 yX11_cups ∈ TB := TB_of (tm4 (List.mem_of_getElem? (i := 40) rfl)) rfl
theorem wd_1062 : Cond.instanceMethod yX11_cups ∈ TB := TB_of (tm4 (List.mem_of_getElem? (i := 41) rfl)) rfl
theorem wd_1063 : Cond.selects RX11 yX11_cups yX11_cups ∈ TB := TB_of (tm4 (List.mem_of_getElem? (i := 42) rfl)) rfl
theorem wd_1064 : Cond.code yX11_cups cX11_cups 3 (some .int) ∈ TB := TB_of (tm4 (List.mem_of_getElem? (i := 43) rfl)) rfl
theorem wd_1065 : Cond.methodLink RL 113 yX12_cups ∈ TB := TB_of (tm6 (List.mem_of_getElem? (i := 48) rfl)) rfl
theorem wd_1066 : Cond.instanceMethod yX12_cups ∈ TB := TB_of (tm6 (List.mem_of_getElem? (i := 49) rfl)) rfl
theorem wd_1067 : Cond.selects RX12 yX12_cups yX12_cups ∈ TB := TB_of (tm6 (List.mem_of_getElem? (i := 50) rfl)) rfl
theorem wd_1068 : Cond.code yX12_cups cX12_cups 5 (some .int) ∈ TB := TB_of (tm6 (List.mem_of_getElem? (i := 51) rfl)) rfl
theorem wd_1069 : Cond.methodLink RL 114 yX11_thin ∈ TB := TB_of (tm4 (List.mem_of_getElem? (i := 44) rfl)) rfl
theorem wd_1070 : Cond.instanceMethod yX11_thin ∈ TB := TB_of (tm4 (List.mem_of_getElem? (i := 45) rfl)) rfl
theorem wd_1071 : Cond.selects RX11 yX11_thin yX11_thin ∈ TB := TB_of (tm4 (List.mem_of_getElem? (i := 46) rfl)) rfl
theorem wd_1072 : Cond.code yX11_thin cX11_thin 1 (some .int) ∈ TB := TB_of (tm4 (List.mem_of_getElem? (i := 47) rfl)) rfl
theorem wd_1073 : Cond.methodLink RL 117 yX12_thin ∈ TB := TB_of (tm6 (List.mem_of_getElem? (i := 52) rfl)) rfl
theorem wd_1074 : Cond.instanceMethod yX12_thin ∈ TB := TB_of (tm6 (List.mem_of_getElem? (i := 53) rfl)) rfl
theorem wd_1075 : Cond.selects RX12 yX12_thin yX12_thin ∈ TB := TB_of (tm6 (List.mem_of_getElem? (i := 54) rfl)) rfl
theorem wd_1076 : Cond.code yX12_thin cX12_thin 5 (some .int) ∈ TB := TB_of (tm6 (List.mem_of_getElem? (i := 55) rfl)) rfl
theorem wd_1077 : Cond.methodLink RL 118 yX11_dust ∈ TB := TB_of (tm4 (List.mem_of_getElem? (i := 52) rfl)) rfl
theorem wd_1078 : Cond.instanceMethod yX11_dust ∈ TB := TB_of (tm4 (List.mem_of_getElem? (i := 53) rfl)) rfl
theorem wd_1079 : Cond.selects RX11 yX11_dust yX11_dust ∈ TB := TB_of (tm4 (List.mem_of_getElem? (i := 54) rfl)) rfl
theorem wd_1080 : Cond.code yX11_dust cX11_dust 13 (some .long) ∈ TB := TB_of (tm4 (List.mem_of_getElem? (i := 55) rfl)) rfl
theorem wd_1081 : Cond.methodLink RL 122 yX12_dust ∈ TB := TB_of (tm6 (List.mem_of_getElem? (i := 56) rfl)) rfl
theorem wd_1082 : Cond.instanceMethod yX12_dust ∈ TB := TB_of (tm6 (List.mem_of_getElem? (i := 57) rfl)) rfl
theorem wd_1083 : Cond.selects RX12 yX12_dust yX12_dust ∈ TB := TB_of (tm6 (List.mem_of_getElem? (i := 58) rfl)) rfl
theorem wd_1084 : Cond.code yX12_dust cX12_dust 17 (some .long) ∈ TB := TB_of (tm6 (List.mem_of_getElem? (i := 59) rfl)) rfl
theorem wd_1085 : Cond.methodLink RL 123 yX11_evenings ∈ TB := TB_of (tm4 (List.mem_of_getElem? (i := 64) rfl)) rfl
theorem wd_1086 : Cond.instanceMethod yX11_evenings ∈ TB := TB_of (tm4 (List.mem_of_getElem? (i := 65) rfl)) rfl
theorem wd_1087 : Cond.selects RX11 yX11_evenings yX11_evenings ∈ TB := TB_of (tm4 (List.mem_of_getElem? (i := 66) rfl)) rfl
theorem wd_1088 : Cond.code yX11_evenings cX11_evenings 8 (some .int) ∈ TB := TB_of (tm4 (List.mem_of_getElem? (i := 67) rfl)) rfl
theorem wd_1089 : Cond.methodLink RL 126 yX12_evenings ∈ TB := TB_of (tm6 (List.mem_of_getElem? (i := 62) rfl)) rfl
theorem wd_1090 : Cond.instanceMethod yX12_evenings ∈ TB := TB_of (tm6 (List.mem_of_getElem? (i := 63) rfl)) rfl
theorem wd_1091 : Cond.selects RX12 yX12_evenings yX12_evenings ∈ TB := TB_of (tm6 (List.mem_of_getElem? (i := 64) rfl)) rfl
theorem wd_1092 : Cond.code yX12_evenings cX12_evenings 7 (some .int) ∈ TB := TB_of (tm6 (List.mem_of_getElem? (i := 65) rfl)) rfl
theorem wd_1093 : Cond.methodLink RL 127 yX11_image ∈ TB := TB_of (tm4 (List.mem_of_getElem? (i := 73) rfl)) rfl
theorem wd_1094 : Cond.instanceMethod yX11_image ∈ TB := TB_of (tm4 (List.mem_of_getElem? (i := 74) rfl)) rfl
theorem wd_1095 : Cond.selects RX11 yX11_image yX11_image ∈ TB := TB_of (tm4 (List.mem_of_getElem? (i := 75) rfl)) rfl
theorem wd_1096 : Cond.code yX11_image cX11_image 2 (some .int) ∈ TB := TB_of (tm4 (List.mem_of_getElem? (i := 76) rfl)) rfl
theorem wd_1097 : Cond.methodLink RL 130 yX12_image ∈ TB := TB_of (tm6 (List.mem_of_getElem? (i := 70) rfl)) rfl
theorem wd_1098 : Cond.instanceMethod yX12_image ∈ TB := TB_of (tm6 (List.mem_of_getElem? (i := 71) rfl)) rfl
theorem wd_1099 : Cond.selects RX12 yX12_image yX12_image ∈ TB := TB_of (tm6 (List.mem_of_getElem? (i := 72) rfl)) rfl
theorem wd_1100 : Cond.code yX12_image cX12_image 3 (some .int) ∈ TB := TB_of (tm6 (List.mem_of_getElem? (i := 73) rfl)) rfl
theorem wd_1101 : Cond.methodLink RL 131 yX11_restore ∈ TB := TB_of (tm4 (List.mem_of_getElem? (i := 82) rfl)) rfl
theorem wd_1102 : Cond.instanceMethod yX11_restore ∈ TB := TB_of (tm4 (List.mem_of_getElem? (i := 83) rfl)) rfl
theorem wd_1103 : Cond.selects RX11 yX11_restore yX11_restore ∈ TB := TB_of (tm4 (List.mem_of_getElem? (i := 84) rfl)) rfl
theorem wd_1104 : Cond.code yX11_restore cX11_restore 2 (some .int) ∈ TB := TB_of (tm4 (List.mem_of_getElem? (i := 85) rfl)) rfl
theorem wd_1105 : Cond.methodLink RL 134 yX12_restore ∈ TB := TB_of (tm6 (List.mem_of_getElem? (i := 74) rfl)) rfl
theorem wd_1106 : Cond.instanceMethod yX12_restore ∈ TB := TB_of (tm6 (List.mem_of_getElem? (i := 75) rfl)) rfl
theorem wd_1107 : Cond.selects RX12 yX12_restore yX12_restore ∈ TB := TB_of (tm6 (List.mem_of_getElem? (i := 76) rfl)) rfl
theorem wd_1108 : Cond.code yX12_restore cX12_restore 3 (some .int) ∈ TB := TB_of (tm6 (List.mem_of_getElem? (i := 77) rfl)) rfl
theorem wd_1109 : Cond.methodLink RL 135 yX11_kind ∈ TB := TB_of (tm4 (List.mem_of_getElem? (i := 86) rfl)) rfl
theorem wd_1110 : Cond.instanceMethod yX11_kind ∈ TB := TB_of (tm4 (List.mem_of_getElem? (i := 87) rfl)) rfl
theorem wd_1111 : Cond.selects RX11 yX11_kind yX11_kind ∈ TB := TB_of (tm4 (List.mem_of_getElem? (i := 88) rfl)) rfl
theorem wd_1112 : Cond.code yX11_kind cX11_kind 3 (some .int) ∈ TB := TB_of (tm4 (List.mem_of_getElem? (i := 89) rfl)) rfl
theorem wd_1113 : Cond.methodLink RL 138 yX12_kind ∈ TB := TB_of (tm6 (List.mem_of_getElem? (i := 78) rfl)) rfl
theorem wd_1114 : Cond.instanceMethod yX12_kind ∈ TB := TB_of (tm6 (List.mem_of_getElem? (i := 79) rfl)) rfl
theorem wd_1115 : Cond.selects RX12 yX12_kind yX12_kind ∈ TB := TB_of (tm6 (List.mem_of_getElem? (i := 80) rfl)) rfl
theorem wd_1116 : Cond.code yX12_kind cX12_kind 2 (some .int) ∈ TB := TB_of (tm6 (List.mem_of_getElem? (i := 81) rfl)) rfl
theorem wd_1117 : Cond.methodLink RL 139 yX11_as ∈ TB := TB_of (tm4 (List.mem_of_getElem? (i := 108) rfl)) rfl
theorem wd_1118 : Cond.instanceMethod yX11_as ∈ TB := TB_of (tm4 (List.mem_of_getElem? (i := 109) rfl)) rfl
theorem wd_1119 : Cond.selects RX11 yX11_as yX11_as ∈ TB := TB_of (tm4 (List.mem_of_getElem? (i := 110) rfl)) rfl
theorem wd_1120 : Cond.code yX11_as cX11_as 4 (some .int) ∈ TB := TB_of (tm4 (List.mem_of_getElem? (i := 111) rfl)) rfl
theorem wd_1121 : Cond.methodLink RL 142 yX12_as ∈ TB := TB_of (tm6 (List.mem_of_getElem? (i := 82) rfl)) rfl
theorem wd_1122 : Cond.instanceMethod yX12_as ∈ TB := TB_of (tm6 (List.mem_of_getElem? (i := 83) rfl)) rfl
theorem wd_1123 : Cond.selects RX12 yX12_as yX12_as ∈ TB := TB_of (tm6 (List.mem_of_getElem? (i := 84) rfl)) rfl
theorem wd_1124 : Cond.code yX12_as cX12_as 3 (some .int) ∈ TB := TB_of (tm6 (List.mem_of_getElem? (i := 85) rfl)) rfl
theorem wd_1125 : Cond.methodLink RL 143 yX11_ask ∈ TB := TB_of (tm4 (List.mem_of_getElem? (i := 120) rfl)) rfl
theorem wd_1126 : Cond.instanceMethod yX11_ask ∈ TB := TB_of (tm4 (List.mem_of_getElem? (i := 121) rfl)) rfl
theorem wd_1127 : Cond.selects RX11 yX11_ask yX11_ask ∈ TB := TB_of (tm4 (List.mem_of_getElem? (i := 122) rfl)) rfl
theorem wd_1128 : Cond.code yX11_ask cX11_ask 5 (some .int) ∈ TB := TB_of (tm4 (List.mem_of_getElem? (i := 123) rfl)) rfl
theorem wd_1129 : Cond.methodLink RL 146 yX12_ask ∈ TB := TB_of (tm6 (List.mem_of_getElem? (i := 90) rfl)) rfl
theorem wd_1130 : Cond.instanceMethod yX12_ask ∈ TB := TB_of (tm6 (List.mem_of_getElem? (i := 91) rfl)) rfl
theorem wd_1131 : Cond.selects RX12 yX12_ask yX12_ask ∈ TB := TB_of (tm6 (List.mem_of_getElem? (i := 92) rfl)) rfl
theorem wd_1132 : Cond.code yX12_ask cX12_ask 3 (some .int) ∈ TB := TB_of (tm6 (List.mem_of_getElem? (i := 93) rfl)) rfl
theorem wd_1133 : Cond.methodLink RL 147 yX11_trace ∈ TB := TB_of (tm4 (List.mem_of_getElem? (i := 175) rfl)) rfl
theorem wd_1134 : Cond.instanceMethod yX11_trace ∈ TB := TB_of (tm4 (List.mem_of_getElem? (i := 176) rfl)) rfl
theorem wd_1135 : Cond.selects RX11 yX11_trace yX11_trace ∈ TB := TB_of (tm4 (List.mem_of_getElem? (i := 177) rfl)) rfl
theorem wd_1136 : Cond.code yX11_trace cX11_trace 2 (some .int) ∈ TB := TB_of (tm4 (List.mem_of_getElem? (i := 178) rfl)) rfl
theorem wd_1137 : Cond.methodLink RL 150 yX12_trace ∈ TB := TB_of (tm6 (List.mem_of_getElem? (i := 114) rfl)) rfl
theorem wd_1138 : Cond.instanceMethod yX12_trace ∈ TB := TB_of (tm6 (List.mem_of_getElem? (i := 115) rfl)) rfl
theorem wd_1139 : Cond.selects RX12 yX12_trace yX12_trace ∈ TB := TB_of (tm6 (List.mem_of_getElem? (i := 116) rfl)) rfl
theorem wd_1140 : Cond.code yX12_trace cX12_trace 2 (some .int) ∈ TB := TB_of (tm6 (List.mem_of_getElem? (i := 117) rfl)) rfl
theorem wd_1141 : Cond.methodLink RL 151 yX11_count ∈ TB := TB_of (tm4 (List.mem_of_getElem? (i := 179) rfl)) rfl
theorem wd_1142 : Cond.instanceMethod yX11_count ∈ TB := TB_of (tm4 (List.mem_of_getElem? (i := 180) rfl)) rfl
theorem wd_1143 : Cond.selects RX11 yX11_count yX11_count ∈ TB := TB_of (tm4 (List.mem_of_getElem? (i := 181) rfl)) rfl
theorem wd_1144 : Cond.code yX11_count cX11_count 2 (some .int) ∈ TB := TB_of (tm4 (List.mem_of_getElem? (i := 182) rfl)) rfl
theorem wd_1145 : Cond.methodLink RL 154 yX12_count ∈ TB := TB_of (tm6 (List.mem_of_getElem? (i := 118) rfl)) rfl
theorem wd_1146 : Cond.instanceMethod yX12_count ∈ TB := TB_of (tm6 (List.mem_of_getElem? (i := 119) rfl)) rfl
theorem wd_1147 : Cond.selects RX12 yX12_count yX12_count ∈ TB := TB_of (tm6 (List.mem_of_getElem? (i := 120) rfl)) rfl
theorem wd_1148 : Cond.code yX12_count cX12_count 4 (some .int) ∈ TB := TB_of (tm6 (List.mem_of_getElem? (i := 121) rfl)) rfl
theorem wd_1149 : Cond.methodLink RL 155 yX11_status ∈ TB := TB_of (tm4 (List.mem_of_getElem? (i := 190) rfl)) rfl
theorem wd_1150 : Cond.instanceMethod yX11_status ∈ TB := TB_of (tm4 (List.mem_of_getElem? (i := 191) rfl)) rfl
theorem wd_1151 : Cond.selects RX11 yX11_status yX11_status ∈ TB := TB_of (tm4 (List.mem_of_getElem? (i := 192) rfl)) rfl
theorem wd_1152 : Cond.code yX11_status cX11_status 1 (some .int) ∈ TB := TB_of (tm4 (List.mem_of_getElem? (i := 193) rfl)) rfl
theorem wd_1153 : Cond.methodLink RL 158 yX12_status ∈ TB := TB_of (tm6 (List.mem_of_getElem? (i := 122) rfl)) rfl
theorem wd_1154 : Cond.instanceMethod yX12_status ∈ TB := TB_of (tm6 (List.mem_of_getElem? (i := 123) rfl)) rfl
theorem wd_1155 : Cond.selects RX12 yX12_status yX12_status ∈ TB := TB_of (tm6 (List.mem_of_getElem? (i := 124) rfl)) rfl
theorem wd_1156 : Cond.code yX12_status cX12_status 1 (some .int) ∈ TB := TB_of (tm6 (List.mem_of_getElem? (i := 125) rfl)) rfl
theorem nb_1157 : Cond.castable RX0 RX2 ∈ NB := NB_of (tm6 (List.mem_of_getElem? (i := 136) rfl)) rfl
theorem nb_1158 : Cond.castable RX1 RX2 ∈ NB := NB_of (tm6 (List.mem_of_getElem? (i := 137) rfl)) rfl
theorem nb_1159 : Cond.castable RX4 RX2 ∈ NB := NB_of (tm6 (List.mem_of_getElem? (i := 138) rfl)) rfl
theorem nb_1160 : Cond.castable RX5 RX2 ∈ NB := NB_of (tm6 (List.mem_of_getElem? (i := 139) rfl)) rfl
theorem nb_1161 : Cond.castable RX6 RX2 ∈ NB := NB_of (tm6 (List.mem_of_getElem? (i := 140) rfl)) rfl
theorem nb_1162 : Cond.castable RX1 RX4 ∈ NB := NB_of (tm6 (List.mem_of_getElem? (i := 141) rfl)) rfl
theorem nb_1163 : Cond.castable RX5 RX4 ∈ NB := NB_of (tm6 (List.mem_of_getElem? (i := 142) rfl)) rfl
theorem nb_1164 : Cond.castable RX6 RX0 ∈ NB := NB_of (tm6 (List.mem_of_getElem? (i := 143) rfl)) rfl
theorem nb_1165 : Cond.castable RX3 "java/lang/Object" ∈ NB := NB_of (tm6 (List.mem_of_getElem? (i := 144) rfl)) rfl
theorem nb_1166 : Cond.castable RX8 "java/lang/Object" ∈ NB := NB_of (tm6 (List.mem_of_getElem? (i := 145) rfl)) rfl
theorem nb_1167 : Cond.castable RX7 "java/lang/Object" ∈ NB := NB_of (tm6 (List.mem_of_getElem? (i := 146) rfl)) rfl
theorem nb_1168 : Cond.castable RX11 "java/lang/Object" ∈ NB := NB_of (tm6 (List.mem_of_getElem? (i := 147) rfl)) rfl
theorem nb_1169 : Cond.castable RX9 "java/lang/Object" ∈ NB := NB_of (tm6 (List.mem_of_getElem? (i := 148) rfl)) rfl
theorem nb_1170 : Cond.castable RX10 "java/lang/Object" ∈ NB := NB_of (tm6 (List.mem_of_getElem? (i := 149) rfl)) rfl
theorem nb_1171 : Cond.castable RJx4a65c "java/lang/Object" ∈ NB := NB_of (tm6 (List.mem_of_getElem? (i := 150) rfl)) rfl
theorem nb_1172 : Cond.castable RX12 "java/lang/Object" ∈ NB := NB_of (tm6 (List.mem_of_getElem? (i := 151) rfl)) rfl
theorem nb_1173 : Cond.castable RX5 "java/lang/Object" ∈ NB := NB_of (tm6 (List.mem_of_getElem? (i := 152) rfl)) rfl
theorem nb_1174 : Cond.castable RX1 "java/lang/Object" ∈ NB := NB_of (tm6 (List.mem_of_getElem? (i := 153) rfl)) rfl
theorem nb_1175 : Cond.castable RX0 "java/lang/Object" ∈ NB := NB_of (tm6 (List.mem_of_getElem? (i := 154) rfl)) rfl
theorem nb_1176 : Cond.castable RX6 "java/lang/Object" ∈ NB := NB_of (tm6 (List.mem_of_getElem? (i := 155) rfl)) rfl
theorem nb_1177 : Cond.castable RX4 "java/lang/Object" ∈ NB := NB_of (tm6 (List.mem_of_getElem? (i := 156) rfl)) rfl
theorem wd_1178 : Cond.arrayClass .int ∈ TB := TB_of (tm1 (List.mem_of_getElem? (i := 59) rfl)) rfl
theorem wd_1179 : Cond.arrayClass .boolean ∈ TB := TB_of (tm1 (List.mem_of_getElem? (i := 101) rfl)) rfl
theorem wd_1180 : Cond.fieldLink RJx4a65c 39 "java/util/ArrayList" "DEFAULTCAPACITY_EMPTY_ELEMENTDATA" "[Ljava/lang/Object;" ∈ TB := TB_of (tm1 (List.mem_of_getElem? (i := 136) rfl)) rfl
theorem wd_1181 : Cond.fieldLink RX11 321 "PadPolish" "WORDS" "[I" ∈ TB := TB_of (tm3 (List.mem_of_getElem? (i := 224) rfl)) rfl
theorem ci_X0_1 : gwI RX0 1 yX2_init cX2_init 3 2 := ⟨wd_0, wd_1, rfl, wd_2, wd_3, by unfold gmh; decide +kernel⟩
theorem cv_X0_7_1 : gwV RX0 7 1 yX0_clearedHaze cX0_clearedHaze 1 (some .int) 0 := ⟨_, _, _, rfl, rfl, wd_4, wd_5, wd_6, wd_7, wd_8, by unfold gmh; decide +kernel⟩
theorem cu_X0_7_6 : gwU RX0 7 6 yX6_clearedHaze cX6_clearedHaze 1 (some .int) 0 := ⟨_, _, _, "PadPolish$Clearing", yX0_clearedHaze, rfl, wd_4, wd_9, wd_10, wd_11, wd_12, wd_13, Or.inr (Or.inr ⟨wd_5, _, _, _, wd_8⟩), by decide +kernel⟩
theorem cv_X0_13_7 : gwV RX0 13 7 yX7_takeHaze cX7_takeHaze 3 none 2 := ⟨_, _, _, rfl, rfl, wd_14, wd_15, wd_16, wd_17, wd_18, by unfold gmh; decide +kernel⟩
theorem fd_X0_19_7 : gFdN RX0 19 7 1 := ⟨_, _, _, "PadPolish$Surface", "PadPolish", rfl, by decide, inTX7, nb_19, Or.inl rfl⟩
theorem cv_X0_29_7 : gwV RX0 29 7 yX7_takeSoft cX7_takeSoft 3 none 2 := ⟨_, _, _, rfl, rfl, wd_24, wd_25, wd_26, wd_17, wd_27, by unfold gmh; decide +kernel⟩
theorem cv_X0_32_7 : gwV RX0 32 7 yX7_dryPad cX7_dryPad 1 none 0 := ⟨_, _, _, rfl, rfl, wd_28, wd_29, wd_30, wd_17, wd_31, by unfold gmh; decide +kernel⟩
theorem cv_X0_36_10 : gwV RX0 36 10 yX10_leave cX10_leave 2 none 1 := ⟨_, _, _, rfl, rfl, wd_32, wd_33, wd_34, wd_35, wd_36, by unfold gmh; decide +kernel⟩
theorem cx_X0_42 : gwSU RX0 42 yX2_size cX2_size 3 (some .int) 2 := ⟨wd_37, wd_38, wd_39, wd_40, wd_2, wd_41, by decide, by decide +kernel⟩
theorem cx_X0_46 : gwSU RX0 46 yX2_mark cX2_mark 3 (some .int) 2 := ⟨wd_42, wd_43, wd_39, wd_44, wd_2, wd_45, by decide, by decide +kernel⟩
theorem cv_X0_49_1 : gwV RX0 49 1 yX0_size cX0_size 3 (some .int) 2 := ⟨_, _, _, rfl, rfl, wd_46, wd_47, wd_48, wd_7, wd_49, by unfold gmh; decide +kernel⟩
theorem cu_X0_49_6 : gwU RX0 49 6 yX6_size cX6_size 3 (some .int) 2 := ⟨_, _, _, "PadPolish$Clearing", yX0_size, rfl, wd_46, wd_50, wd_51, wd_52, wd_12, wd_53, Or.inr (Or.inr ⟨wd_47, _, _, _, wd_49⟩), by decide +kernel⟩
theorem ci_X1_1 : gwI RX1 1 yX4_init cX4_init 3 2 := ⟨wd_54, wd_55, rfl, wd_56, wd_57, by unfold gmh; decide +kernel⟩
theorem fd_X1_7_7 : gFdN RX1 7 7 3 := ⟨_, _, _, "PadPolish$Surface", "PadPolish", rfl, by decide, inTX7, nb_58, Or.inl rfl⟩
theorem cv_X1_13_7 : gwV RX1 13 7 yX7_scratch cX7_scratch 2 none 1 := ⟨_, _, _, rfl, rfl, wd_59, wd_60, wd_61, wd_17, wd_62, by unfold gmh; decide +kernel⟩
theorem cv_X1_17_10 : gwV RX1 17 10 yX10_leave cX10_leave 2 none 1 := ⟨_, _, _, rfl, rfl, wd_63, wd_33, wd_34, wd_35, wd_36, by unfold gmh; decide +kernel⟩
theorem cx_X1_22 : gwSU RX1 22 yX4_mark cX4_mark 3 (some .int) 2 := ⟨wd_64, wd_65, wd_66, wd_67, wd_56, wd_68, by decide, by decide +kernel⟩
theorem fp_X2_7_1 : gFp RX2 7 1 0 .int true := ⟨_, _, _, "PadPolish$Pass", tyX0, rfl, by decide, inTX0, wd_71, Or.inl rfl, tyX0_ok, nmX0, rfl, by decide +kernel, fun h => rfl⟩
theorem fp_X2_7_2 : gFp RX2 7 2 0 .int true := ⟨_, _, _, "PadPolish$Pass", tyX1, rfl, by decide, inTX1, wd_71, Or.inl rfl, tyX1_ok, nmX1, rfl, by decide +kernel, fun h => rfl⟩
theorem fp_X2_7_4 : gFp RX2 7 4 0 .int true := ⟨_, _, _, "PadPolish$Pass", tyX4, rfl, by decide, inTX4, wd_71, Or.inl rfl, tyX4_ok, nmX4, rfl, by decide +kernel, fun h => rfl⟩
theorem fp_X2_7_5 : gFp RX2 7 5 0 .int true := ⟨_, _, _, "PadPolish$Pass", tyX5, rfl, by decide, inTX5, wd_71, Or.inl rfl, tyX5_ok, nmX5, rfl, by decide +kernel, fun h => rfl⟩
theorem fp_X2_7_6 : gFp RX2 7 6 0 .int true := ⟨_, _, _, "PadPolish$Pass", tyX6, rfl, by decide, inTX6, wd_71, Or.inl rfl, tyX6_ok, nmX6, rfl, by decide +kernel, fun h => rfl⟩
theorem fp_X2_13_1 : gFp RX2 13 1 1 (.array .int) true := ⟨_, _, _, "PadPolish$Pass", tyX0, rfl, by decide, inTX0, wd_72, Or.inl rfl, tyX0_ok, nmX0, rfl, by decide +kernel, fun h => rfl⟩
theorem fp_X2_13_2 : gFp RX2 13 2 1 (.array .int) true := ⟨_, _, _, "PadPolish$Pass", tyX1, rfl, by decide, inTX1, wd_72, Or.inl rfl, tyX1_ok, nmX1, rfl, by decide +kernel, fun h => rfl⟩
theorem fp_X2_13_4 : gFp RX2 13 4 1 (.array .int) true := ⟨_, _, _, "PadPolish$Pass", tyX4, rfl, by decide, inTX4, wd_72, Or.inl rfl, tyX4_ok, nmX4, rfl, by decide +kernel, fun h => rfl⟩
theorem fp_X2_13_5 : gFp RX2 13 5 1 (.array .int) true := ⟨_, _, _, "PadPolish$Pass", tyX5, rfl, by decide, inTX5, wd_72, Or.inl rfl, tyX5_ok, nmX5, rfl, by decide +kernel, fun h => rfl⟩
theorem fp_X2_13_6 : gFp RX2 13 6 1 (.array .int) true := ⟨_, _, _, "PadPolish$Pass", tyX6, rfl, by decide, inTX6, wd_72, Or.inl rfl, tyX6_ok, nmX6, rfl, by decide +kernel, fun h => rfl⟩
theorem fd_X2_13_1 : gFd RX2 13 1 1 := ⟨_, _, _, "PadPolish$Pass", rfl, by decide, inTX0, wd_72, Or.inl rfl⟩
theorem fd_X2_13_2 : gFd RX2 13 2 1 := ⟨_, _, _, "PadPolish$Pass", rfl, by decide, inTX1, wd_72, Or.inl rfl⟩
theorem fd_X2_13_4 : gFd RX2 13 4 1 := ⟨_, _, _, "PadPolish$Pass", rfl, by decide, inTX4, wd_72, Or.inl rfl⟩
theorem fd_X2_13_5 : gFd RX2 13 5 1 := ⟨_, _, _, "PadPolish$Pass", rfl, by decide, inTX5, wd_72, Or.inl rfl⟩
theorem fd_X2_13_6 : gFd RX2 13 6 1 := ⟨_, _, _, "PadPolish$Pass", rfl, by decide, inTX6, wd_72, Or.inl rfl⟩
theorem cu_X2_17_1 : gwU RX2 17 1 yX0_touch cX0_touch 3 none 2 := ⟨_, _, _, "PadPolish$Pass", ⟨RX2, "touch", "(LPadPolish$Surface;I)V"⟩, rfl, wd_74, wd_75, wd_76, wd_77, wd_7, wd_78, Or.inr (Or.inl nb_73), by decide +kernel⟩
theorem cu_X2_17_2 : gwU RX2 17 2 yX4_touch cX4_touch 3 none 2 := ⟨_, _, _, "PadPolish$Pass", ⟨RX2, "touch", "(LPadPolish$Surface;I)V"⟩, rfl, wd_74, wd_75, wd_79, wd_80, wd_56, wd_81, Or.inr (Or.inl nb_73), by decide +kernel⟩
theorem cu_X2_17_4 : gwU RX2 17 4 yX4_touch cX4_touch 3 none 2 := ⟨_, _, _, "PadPolish$Pass", ⟨RX2, "touch", "(LPadPolish$Surface;I)V"⟩, rfl, wd_74, wd_75, wd_82, wd_80, wd_56, wd_81, Or.inr (Or.inl nb_73), by decide +kernel⟩
theorem cu_X2_17_5 : gwU RX2 17 5 yX4_touch cX4_touch 3 none 2 := ⟨_, _, _, "PadPolish$Pass", ⟨RX2, "touch", "(LPadPolish$Surface;I)V"⟩, rfl, wd_74, wd_75, wd_83, wd_80, wd_56, wd_81, Or.inr (Or.inl nb_73), by decide +kernel⟩
theorem cu_X2_17_6 : gwU RX2 17 6 yX0_touch cX0_touch 3 none 2 := ⟨_, _, _, "PadPolish$Pass", ⟨RX2, "touch", "(LPadPolish$Surface;I)V"⟩, rfl, wd_74, wd_75, wd_84, wd_77, wd_7, wd_78, Or.inr (Or.inl nb_73), by decide +kernel⟩
theorem cv_X2_21_10 : gwV RX2 21 10 yX10_leave cX10_leave 2 none 1 := ⟨_, _, _, rfl, rfl, wd_85, wd_33, wd_34, wd_35, wd_36, by unfold gmh; decide +kernel⟩
theorem fd_X2_7_1 : gFd RX2 7 1 0 := ⟨_, _, _, "PadPolish$Pass", rfl, by decide, inTX0, wd_71, Or.inl rfl⟩
theorem fd_X2_7_2 : gFd RX2 7 2 0 := ⟨_, _, _, "PadPolish$Pass", rfl, by decide, inTX1, wd_71, Or.inl rfl⟩
theorem fd_X2_7_4 : gFd RX2 7 4 0 := ⟨_, _, _, "PadPolish$Pass", rfl, by decide, inTX4, wd_71, Or.inl rfl⟩
theorem fd_X2_7_5 : gFd RX2 7 5 0 := ⟨_, _, _, "PadPolish$Pass", rfl, by decide, inTX5, wd_71, Or.inl rfl⟩
theorem fd_X2_7_6 : gFd RX2 7 6 0 := ⟨_, _, _, "PadPolish$Pass", rfl, by decide, inTX6, wd_71, Or.inl rfl⟩
theorem fp_X3_9_3 : gFp RX3 9 3 0 (.array .int) true := ⟨_, _, _, "PadPolish$Row", tyX3, rfl, by decide, inTX3, wd_87, Or.inl rfl, tyX3_ok, nmX3, rfl, by decide +kernel, fun h => rfl⟩
theorem fp_X3_15_3 : gFp RX3 15 3 2 .int false := ⟨_, _, _, "PadPolish$Row", tyX3, rfl, by decide, inTX3, wd_88, Or.inl rfl, tyX3_ok, nmX3, rfl, by decide +kernel, fun h => rfl⟩
theorem fd_X3_15_3 : gFd RX3 15 3 2 := ⟨_, _, _, "PadPolish$Row", rfl, by decide, inTX3, wd_88, Or.inl rfl⟩
theorem fp_X3_19_3 : gFp RX3 19 3 1 .int false := ⟨_, _, _, "PadPolish$Row", tyX3, rfl, by decide, inTX3, wd_89, Or.inl rfl, tyX3_ok, nmX3, rfl, by decide +kernel, fun h => rfl⟩
theorem fd_X3_9_3 : gFd RX3 9 3 0 := ⟨_, _, _, "PadPolish$Row", rfl, by decide, inTX3, wd_87, Or.inl rfl⟩
theorem cs_X3_22 : gwS RX3 22 yJ7_fill_53178 cJ7_fill_53178 4 none 2 := ⟨wd_90, wd_91, wd_92, wd_93, by unfold gmh; decide +kernel⟩
theorem fd_X3_19_3 : gFd RX3 19 3 1 := ⟨_, _, _, "PadPolish$Row", rfl, by decide, inTX3, wd_89, Or.inl rfl⟩
theorem fd_X3_28_7 : gFdN RX3 28 7 0 := ⟨_, _, _, "PadPolish$Surface", "PadPolish", rfl, by decide, inTX7, nb_94, Or.inl rfl⟩
theorem ci_X4_1 : gwI RX4 1 yX2_init cX2_init 3 2 := ⟨wd_95, wd_1, rfl, wd_2, wd_3, by unfold gmh; decide +kernel⟩
theorem cv_X4_7_4 : gwV RX4 7 4 yX4_takeFirst cX4_takeFirst 3 none 2 := ⟨_, _, _, rfl, rfl, wd_96, wd_97, wd_98, wd_56, wd_99, by unfold gmh; decide +kernel⟩
theorem cu_X4_7_2 : gwU RX4 7 2 yX1_takeFirst cX1_takeFirst 3 none 2 := ⟨_, _, _, "PadPolish$Sliding", yX4_takeFirst, rfl, wd_96, wd_100, wd_101, wd_102, wd_103, wd_104, Or.inr (Or.inr ⟨wd_97, _, _, _, wd_99⟩), by decide +kernel⟩
theorem cu_X4_7_5 : gwU RX4 7 5 yX5_takeFirst cX5_takeFirst 3 none 2 := ⟨_, _, _, "PadPolish$Sliding", yX4_takeFirst, rfl, wd_96, wd_100, wd_105, wd_106, wd_107, wd_108, Or.inr (Or.inr ⟨wd_97, _, _, _, wd_99⟩), by decide +kernel⟩
theorem fd_X4_13_7 : gFdN RX4 13 7 3 := ⟨_, _, _, "PadPolish$Surface", "PadPolish", rfl, by decide, inTX7, nb_109, Or.inl rfl⟩
theorem cv_X4_19_4 : gwV RX4 19 4 yX4_laid cX4_laid 2 (some .int) 1 := ⟨_, _, _, rfl, rfl, wd_110, wd_111, wd_112, wd_56, wd_113, by unfold gmh; decide +kernel⟩
theorem cu_X4_19_2 : gwU RX4 19 2 yX1_laid cX1_laid 2 (some .int) 1 := ⟨_, _, _, "PadPolish$Sliding", yX4_laid, rfl, wd_110, wd_114, wd_115, wd_116, wd_103, wd_117, Or.inr (Or.inr ⟨wd_111, _, _, _, wd_113⟩), by decide +kernel⟩
theorem cu_X4_19_5 : gwU RX4 19 5 yX5_laid cX5_laid 2 (some .int) 1 := ⟨_, _, _, "PadPolish$Sliding", yX4_laid, rfl, wd_110, wd_114, wd_118, wd_119, wd_107, wd_120, Or.inr (Or.inr ⟨wd_111, _, _, _, wd_113⟩), by decide +kernel⟩
theorem cv_X4_23_7 : gwV RX4 23 7 yX7_layFilm cX7_layFilm 4 none 2 := ⟨_, _, _, rfl, rfl, wd_121, wd_122, wd_123, wd_17, wd_124, by unfold gmh; decide +kernel⟩
theorem cv_X4_27_7 : gwV RX4 27 7 yX7_layHaze cX7_layHaze 2 none 1 := ⟨_, _, _, rfl, rfl, wd_125, wd_126, wd_127, wd_17, wd_128, by unfold gmh; decide +kernel⟩
theorem cv_X4_31_7 : gwV RX4 31 7 yX7_dryPad cX7_dryPad 1 none 0 := ⟨_, _, _, rfl, rfl, wd_129, wd_29, wd_30, wd_17, wd_31, by unfold gmh; decide +kernel⟩
theorem cv_X4_35_10 : gwV RX4 35 10 yX10_leave cX10_leave 2 none 1 := ⟨_, _, _, rfl, rfl, wd_130, wd_33, wd_34, wd_35, wd_36, by unfold gmh; decide +kernel⟩
theorem cx_X4_40 : gwSU RX4 40 yX2_size cX2_size 3 (some .int) 2 := ⟨wd_131, wd_38, wd_132, wd_40, wd_2, wd_41, by decide, by decide +kernel⟩
theorem cv_X4_44_4 : gwV RX4 44 4 yX4_mark cX4_mark 3 (some .int) 2 := ⟨_, _, _, rfl, rfl, wd_133, wd_67, wd_134, wd_56, wd_68, by unfold gmh; decide +kernel⟩
theorem cu_X4_44_2 : gwU RX4 44 2 yX1_mark cX1_mark 3 (some .int) 2 := ⟨_, _, _, "PadPolish$Sliding", yX4_mark, rfl, wd_133, wd_65, wd_135, wd_136, wd_103, wd_137, Or.inr (Or.inr ⟨wd_67, _, _, _, wd_68⟩), by decide +kernel⟩
theorem cu_X4_44_5 : gwU RX4 44 5 yX5_mark cX5_mark 3 (some .int) 2 := ⟨_, _, _, "PadPolish$Sliding", yX4_mark, rfl, wd_133, wd_65, wd_138, wd_139, wd_107, wd_140, Or.inr (Or.inr ⟨wd_67, _, _, _, wd_68⟩), by decide +kernel⟩
theorem cx_X4_47 : gwSU RX4 47 yX2_mark cX2_mark 3 (some .int) 2 := ⟨wd_141, wd_43, wd_132, wd_44, wd_2, wd_45, by decide, by decide +kernel⟩
theorem ci_X5_1 : gwI RX5 1 yX4_init cX4_init 3 2 := ⟨wd_142, wd_55, rfl, wd_56, wd_57, by unfold gmh; decide +kernel⟩
theorem fd_X5_7_7 : gFdN RX5 7 7 1 := ⟨_, _, _, "PadPolish$Surface", "PadPolish", rfl, by decide, inTX7, nb_143, Or.inl rfl⟩
theorem cv_X5_13_7 : gwV RX5 13 7 yX7_takeSoft cX7_takeSoft 3 none 2 := ⟨_, _, _, rfl, rfl, wd_144, wd_25, wd_26, wd_17, wd_27, by unfold gmh; decide +kernel⟩
theorem cv_X5_17_10 : gwV RX5 17 10 yX10_leave cX10_leave 2 none 1 := ⟨_, _, _, rfl, rfl, wd_145, wd_33, wd_34, wd_35, wd_36, by unfold gmh; decide +kernel⟩
theorem cx_X5_23 : gwSU RX5 23 yX4_size cX4_size 4 (some .int) 2 := ⟨wd_146, wd_147, wd_148, wd_149, wd_56, wd_150, by decide, by decide +kernel⟩
theorem cx_X5_27 : gwSU RX5 27 yX4_mark cX4_mark 3 (some .int) 2 := ⟨wd_151, wd_65, wd_148, wd_67, wd_56, wd_68, by decide, by decide +kernel⟩
theorem ci_X6_1 : gwI RX6 1 yX0_init cX0_init 3 2 := ⟨wd_152, wd_153, rfl, wd_7, wd_154, by unfold gmh; decide +kernel⟩
theorem cv_X6_7_10 : gwV RX6 7 10 yX10_leave cX10_leave 2 none 1 := ⟨_, _, _, rfl, rfl, wd_155, wd_33, wd_34, wd_35, wd_36, by unfold gmh; decide +kernel⟩
theorem cx_X6_13 : gwSU RX6 13 yX0_size cX0_size 3 (some .int) 2 := ⟨wd_156, wd_50, wd_157, wd_47, wd_7, wd_49, by decide, by decide +kernel⟩
theorem fp_X7_9_7 : gFp RX7 9 7 0 (.array .int) true := ⟨_, _, _, "PadPolish$Surface", tyX7, rfl, by decide, inTX7, wd_159, Or.inl rfl, tyX7_ok, nmX7, rfl, by decide +kernel, fun h => rfl⟩
theorem fp_X7_15_7 : gFp RX7 15 7 1 (.array .int) true := ⟨_, _, _, "PadPolish$Surface", tyX7, rfl, by decide, inTX7, wd_160, Or.inl rfl, tyX7_ok, nmX7, rfl, by decide +kernel, fun h => rfl⟩
theorem fp_X7_18_7 : gFp RX7 18 7 2 (.array .int) true := ⟨_, _, _, "PadPolish$Surface", tyX7, rfl, by decide, inTX7, wd_161, Or.inl rfl, tyX7_ok, nmX7, rfl, by decide +kernel, fun h => rfl⟩
theorem fd_X7_9_7 : gFd RX7 9 7 0 := ⟨_, _, _, "PadPolish$Surface", rfl, by decide, inTX7, wd_159, Or.inl rfl⟩
theorem fd_X7_15_7 : gFd RX7 15 7 1 := ⟨_, _, _, "PadPolish$Surface", rfl, by decide, inTX7, wd_160, Or.inl rfl⟩
theorem fd_X7_18_7 : gFd RX7 18 7 2 := ⟨_, _, _, "PadPolish$Surface", rfl, by decide, inTX7, wd_161, Or.inl rfl⟩
theorem fd_X7_27_7 : gFd RX7 27 7 3 := ⟨_, _, _, "PadPolish$Surface", rfl, by decide, inTX7, wd_166, Or.inl rfl⟩
theorem fp_X7_27_7 : gFp RX7 27 7 3 .int false := ⟨_, _, _, "PadPolish$Surface", tyX7, rfl, by decide, inTX7, wd_166, Or.inl rfl, tyX7_ok, nmX7, rfl, by decide +kernel, fun h => rfl⟩
theorem fd_X7_31_7 : gFd RX7 31 7 4 := ⟨_, _, _, "PadPolish$Surface", rfl, by decide, inTX7, wd_167, Or.inl rfl⟩
theorem fp_X7_31_7 : gFp RX7 31 7 4 .int false := ⟨_, _, _, "PadPolish$Surface", tyX7, rfl, by decide, inTX7, wd_167, Or.inl rfl, tyX7_ok, nmX7, rfl, by decide +kernel, fun h => rfl⟩
theorem fd_X7_34_7 : gFd RX7 34 7 5 := ⟨_, _, _, "PadPolish$Surface", rfl, by decide, inTX7, wd_168, Or.inl rfl⟩
theorem fp_X7_34_7 : gFp RX7 34 7 5 .int false := ⟨_, _, _, "PadPolish$Surface", tyX7, rfl, by decide, inTX7, wd_168, Or.inl rfl, tyX7_ok, nmX7, rfl, by decide +kernel, fun h => rfl⟩
theorem cs_X7_37 : gwS RX7 37 yJ7_fill_53178 cJ7_fill_53178 4 none 2 := ⟨wd_169, wd_91, wd_92, wd_93, by unfold gmh; decide +kernel⟩
theorem cv_X7_52_7 : gwV RX7 52 7 yX7_takeHaze cX7_takeHaze 3 none 2 := ⟨_, _, _, rfl, rfl, wd_174, wd_15, wd_16, wd_17, wd_18, by unfold gmh; decide +kernel⟩
theorem cv_X7_56_7 : gwV RX7 56 7 yX7_thinnest cX7_thinnest 6 (some .int) 0 := ⟨_, _, _, rfl, rfl, wd_175, wd_176, wd_177, wd_17, wd_178, by unfold gmh; decide +kernel⟩
theorem nw_X8_7 : gNw RX8 7 7 6 [vn, vn, vn, vi 0, vi 0, vi 0] := ⟨_, _, tyX7, rfl, inTX7, tyX7_ok, wd_180, wd_181, wd_17, by
  intro X j hj
  rcases (show j = 0 ∨ j = 1 ∨ j = 2 ∨ j = 3 ∨ j = 4 ∨ j = 5 by omega) with rfl | rfl | rfl | rfl | rfl | rfl <;> rfl⟩
theorem ci_X8_9 : gwIN RX8 9 yX7_init cX7_init 1 0 := ⟨⟨_, nb_182⟩, wd_183, rfl, wd_17, wd_184, by unfold gmh; decide +kernel⟩
theorem fp_X8_10_8 : gFp RX8 10 8 0 (.object "PadPolish$Surface") true := ⟨_, _, _, "PadPolish$Table", tyX8, rfl, by decide, inTX8, wd_185, Or.inl rfl, tyX8_ok, nmX8, rfl, by decide +kernel, fun h => rfl⟩
theorem nw_X8_16 : gNw RX8 16 0 3 [vi 0, vn, vi 0] := ⟨_, _, tyJx4a65c, rfl, inTJx4a65c, tyJx4a65c_ok, wd_186, wd_187, wd_188, by
  intro X j hj
  rcases (show j = 0 ∨ j = 1 ∨ j = 2 by omega) with rfl | rfl | rfl <;> rfl⟩
theorem ci_X8_18 : gwI RX8 18 yJx4a65c_init_da8c8 cJx4a65c_init_da8c8 1 0 := ⟨wd_189, wd_190, rfl, wd_188, wd_191, by unfold gmh; decide +kernel⟩
theorem fp_X8_19_8 : gFp RX8 19 8 1 (.object "java/util/ArrayList") false := ⟨_, _, _, "PadPolish$Table", tyX8, rfl, by decide, inTX8, wd_192, Or.inl rfl, tyX8_ok, nmX8, rfl, by decide +kernel, fun h => rfl⟩
theorem fd_X8_10_8 : gFd RX8 10 8 0 := ⟨_, _, _, "PadPolish$Table", rfl, by decide, inTX8, wd_185, Or.inl rfl⟩
theorem cv_X8_23_7 : gwV RX8 23 7 yX7_wipe cX7_wipe 1 none 0 := ⟨_, _, _, rfl, rfl, wd_193, wd_194, wd_195, wd_17, wd_196, by unfold gmh; decide +kernel⟩
theorem fp_X8_26_8 : gFp RX8 26 8 2 .int false := ⟨_, _, _, "PadPolish$Table", tyX8, rfl, by decide, inTX8, wd_197, Or.inl rfl, tyX8_ok, nmX8, rfl, by decide +kernel, fun h => rfl⟩
theorem cv_X8_30_7 : gwV RX8 30 7 yX7_become cX7_become 2 none 1 := ⟨_, _, _, rfl, rfl, wd_198, wd_199, wd_200, wd_17, wd_201, by unfold gmh; decide +kernel⟩
theorem fd_X8_19_8 : gFd RX8 19 8 1 := ⟨_, _, _, "PadPolish$Table", rfl, by decide, inTX8, wd_192, Or.inl rfl⟩
theorem fd_X8_26_8 : gFd RX8 26 8 2 := ⟨_, _, _, "PadPolish$Table", rfl, by decide, inTX8, wd_197, Or.inl rfl⟩
theorem cv_X8_34_0 : gwV RX8 34 0 yJx4a65c_size_8abf5 cJx4a65c_size_8abf5 1 (some .int) 0 := ⟨_, _, _, rfl, rfl, wd_202, wd_203, wd_204, wd_188, wd_205, by unfold gmh; decide +kernel⟩
theorem cv_X8_38_0 : gwV RX8 38 0 yJx4a65c_get_915e3 cJx4a65c_get_915e3 2 (some (.object "java/lang/Object")) 1 := ⟨_, _, _, rfl, rfl, wd_206, wd_207, wd_208, wd_188, wd_209, by unfold gmh; decide +kernel⟩
theorem cu_X8_44_1 : gwU RX8 44 1 yX2_goAlong cX2_goAlong 6 none 1 := ⟨_, _, _, "PadPolish$Pass", yX2_goAlong, rfl, wd_211, wd_212, wd_213, wd_214, wd_2, wd_215, Or.inl rfl, by decide +kernel⟩
theorem cu_X8_44_2 : gwU RX8 44 2 yX2_goAlong cX2_goAlong 6 none 1 := ⟨_, _, _, "PadPolish$Pass", yX2_goAlong, rfl, wd_211, wd_212, wd_216, wd_214, wd_2, wd_215, Or.inl rfl, by decide +kernel⟩
theorem cu_X8_44_4 : gwU RX8 44 4 yX2_goAlong cX2_goAlong 6 none 1 := ⟨_, _, _, "PadPolish$Pass", yX2_goAlong, rfl, wd_211, wd_212, wd_217, wd_214, wd_2, wd_215, Or.inl rfl, by decide +kernel⟩
theorem cu_X8_44_5 : gwU RX8 44 5 yX2_goAlong cX2_goAlong 6 none 1 := ⟨_, _, _, "PadPolish$Pass", yX2_goAlong, rfl, wd_211, wd_212, wd_218, wd_214, wd_2, wd_215, Or.inl rfl, by decide +kernel⟩
theorem cu_X8_44_6 : gwU RX8 44 6 yX2_goAlong cX2_goAlong 6 none 1 := ⟨_, _, _, "PadPolish$Pass", yX2_goAlong, rfl, wd_211, wd_212, wd_219, wd_214, wd_2, wd_215, Or.inl rfl, by decide +kernel⟩
theorem cu_X8_47_1 : gwU RX8 47 1 yX2_cells cX2_cells 6 (some .int) 0 := ⟨_, _, _, "PadPolish$Pass", yX2_cells, rfl, wd_220, wd_221, wd_222, wd_223, wd_2, wd_224, Or.inl rfl, by decide +kernel⟩
theorem cu_X8_47_2 : gwU RX8 47 2 yX2_cells cX2_cells 6 (some .int) 0 := ⟨_, _, _, "PadPolish$Pass", yX2_cells, rfl, wd_220, wd_221, wd_225, wd_223, wd_2, wd_224, Or.inl rfl, by decide +kernel⟩
theorem cu_X8_47_4 : gwU RX8 47 4 yX2_cells cX2_cells 6 (some .int) 0 := ⟨_, _, _, "PadPolish$Pass", yX2_cells, rfl, wd_220, wd_221, wd_226, wd_223, wd_2, wd_224, Or.inl rfl, by decide +kernel⟩
theorem cu_X8_47_5 : gwU RX8 47 5 yX2_cells cX2_cells 6 (some .int) 0 := ⟨_, _, _, "PadPolish$Pass", yX2_cells, rfl, wd_220, wd_221, wd_227, wd_223, wd_2, wd_224, Or.inl rfl, by decide +kernel⟩
theorem cu_X8_47_6 : gwU RX8 47 6 yX2_cells cX2_cells 6 (some .int) 0 := ⟨_, _, _, "PadPolish$Pass", yX2_cells, rfl, wd_220, wd_221, wd_228, wd_223, wd_2, wd_224, Or.inl rfl, by decide +kernel⟩
theorem fp_X9_9_9 : gFp RX9 9 9 0 (.array .int) true := ⟨_, _, _, "PadPolish$Tape", tyX9, rfl, by decide, inTX9, wd_230, Or.inl rfl, tyX9_ok, nmX9, rfl, by decide +kernel, fun h => rfl⟩
theorem fp_X9_15_9 : gFp RX9 15 9 1 (.array .int) true := ⟨_, _, _, "PadPolish$Tape", tyX9, rfl, by decide, inTX9, wd_231, Or.inl rfl, tyX9_ok, nmX9, rfl, by decide +kernel, fun h => rfl⟩
theorem fd_X9_18_9 : gFd RX9 18 9 2 := ⟨_, _, _, "PadPolish$Tape", rfl, by decide, inTX9, wd_232, Or.inl rfl⟩
theorem fd_X9_9_9 : gFd RX9 9 9 0 := ⟨_, _, _, "PadPolish$Tape", rfl, by decide, inTX9, wd_230, Or.inl rfl⟩
theorem fp_X9_18_9 : gFp RX9 18 9 2 .int false := ⟨_, _, _, "PadPolish$Tape", tyX9, rfl, by decide, inTX9, wd_232, Or.inl rfl, tyX9_ok, nmX9, rfl, by decide +kernel, fun h => rfl⟩
theorem fp_X9_22_9 : gFp RX9 22 9 3 .int false := ⟨_, _, _, "PadPolish$Tape", tyX9, rfl, by decide, inTX9, wd_233, Or.inl rfl, tyX9_ok, nmX9, rfl, by decide +kernel, fun h => rfl⟩
theorem cv_X9_25_8 : gwV RX9 25 8 yX8_begin cX8_begin 1 none 0 := ⟨_, _, _, rfl, rfl, wd_234, wd_235, wd_236, wd_237, wd_238, by unfold gmh; decide +kernel⟩
theorem cv_X9_30_9 : gwV RX9 30 9 yX9_readLaw cX9_readLaw 2 (some .boolean) 1 := ⟨_, _, _, rfl, rfl, wd_239, wd_240, wd_241, wd_242, wd_243, by unfold gmh; decide +kernel⟩
theorem cv_X9_34_9 : gwV RX9 34 9 yX9_readCells cX9_readCells 7 (some .boolean) 1 := ⟨_, _, _, rfl, rfl, wd_244, wd_245, wd_246, wd_242, wd_247, by unfold gmh; decide +kernel⟩
theorem cv_X9_37_9 : gwV RX9 37 9 yX9_readPasses cX9_readPasses 5 (some .boolean) 1 := ⟨_, _, _, rfl, rfl, wd_248, wd_249, wd_250, wd_242, wd_251, by unfold gmh; decide +kernel⟩
theorem cv_X9_40_9 : gwV RX9 40 9 yX9_readSign cX9_readSign 2 (some .boolean) 1 := ⟨_, _, _, rfl, rfl, wd_252, wd_253, wd_254, wd_242, wd_255, by unfold gmh; decide +kernel⟩
theorem cv_X9_44_9 : gwV RX9 44 9 yX9_readNumber cX9_readNumber 4 (some .int) 1 := ⟨_, _, _, rfl, rfl, wd_256, wd_257, wd_258, wd_242, wd_259, by unfold gmh; decide +kernel⟩
theorem fp_X9_48_8 : gFpN RX9 48 8 2 .int := ⟨_, _, _, "PadPolish$Table", "PadPolish", tyX8, rfl, by decide, inTX8, nb_260, Or.inl rfl, tyX8_ok, nmX8, rfl, by decide +kernel⟩
theorem fd_X9_48_8 : gFdN RX9 48 8 2 := ⟨_, _, _, "PadPolish$Table", "PadPolish", rfl, by decide, inTX8, nb_260, Or.inl rfl⟩
theorem fd_X9_51_8 : gFdN RX9 51 8 0 := ⟨_, _, _, "PadPolish$Table", "PadPolish", rfl, by decide, inTX8, nb_261, Or.inl rfl⟩
theorem fp_X9_55_7 : gFpN RX9 55 7 4 .int := ⟨_, _, _, "PadPolish$Surface", "PadPolish", tyX7, rfl, by decide, inTX7, nb_262, Or.inl rfl, tyX7_ok, nmX7, rfl, by decide +kernel⟩
theorem fd_X9_55_7 : gFdN RX9 55 7 4 := ⟨_, _, _, "PadPolish$Surface", "PadPolish", rfl, by decide, inTX7, nb_262, Or.inl rfl⟩
theorem cv_X9_60_9 : gwV RX9 60 9 yX9_next cX9_next 1 (some .int) 0 := ⟨_, _, _, rfl, rfl, wd_263, wd_264, wd_265, wd_242, wd_266, by unfold gmh; decide +kernel⟩
theorem cv_X9_64_9 : gwV RX9 64 9 yX9_refuse cX9_refuse 2 (some .boolean) 1 := ⟨_, _, _, rfl, rfl, wd_267, wd_268, wd_269, wd_242, wd_270, by unfold gmh; decide +kernel⟩
theorem fd_X9_22_9 : gFd RX9 22 9 3 := ⟨_, _, _, "PadPolish$Tape", rfl, by decide, inTX9, wd_233, Or.inl rfl⟩
theorem fd_X9_68_7 : gFdN RX9 68 7 0 := ⟨_, _, _, "PadPolish$Surface", "PadPolish", rfl, by decide, inTX7, nb_271, Or.inl rfl⟩
theorem cs_X9_71 : gwS RX9 71 yX9_isSort cX9_isSort 1 (some .boolean) 1 := ⟨wd_272, wd_273, wd_242, wd_274, by unfold gmh; decide +kernel⟩
theorem cv_X9_74_9 : gwV RX9 74 9 yX9_readWay cX9_readWay 3 (some .int) 0 := ⟨_, _, _, rfl, rfl, wd_275, wd_276, wd_277, wd_242, wd_278, by unfold gmh; decide +kernel⟩
theorem fd_X9_77_8 : gFdN RX9 77 8 1 := ⟨_, _, _, "PadPolish$Table", "PadPolish", rfl, by decide, inTX8, nb_279, Or.inl rfl⟩
theorem fd_X9_15_9 : gFd RX9 15 9 1 := ⟨_, _, _, "PadPolish$Tape", rfl, by decide, inTX9, wd_231, Or.inl rfl⟩
theorem cs_X9_81 : gwS RX9 81 yJ7_copyOf_59c91 cJ7_copyOf_59c91 3 (some (.array .int)) 2 := ⟨wd_280, wd_281, wd_92, wd_282, by unfold gmh; decide +kernel⟩
theorem cs_X9_87 : gwS RX9 87 yX9_newPass cX9_newPass 3 (some (.object "PadPolish$Pass")) 3 := ⟨wd_283, wd_284, wd_242, wd_285, by unfold gmh; decide +kernel⟩
theorem cv_X9_91_0 : gwV RX9 91 0 yJx4a65c_add_9ea2d cJx4a65c_add_9ea2d 2 (some .boolean) 1 := ⟨_, _, _, rfl, rfl, wd_286, wd_287, wd_288, wd_188, wd_289, by unfold gmh; decide +kernel⟩
theorem cs_X9_97 : gwS RX9 97 yX9_beside cX9_beside 4 (some .int) 2 := ⟨wd_290, wd_291, wd_242, wd_292, by unfold gmh; decide +kernel⟩
theorem nw_X9_101 : gNw RX9 101 5 2 [vi 0, vn] := ⟨_, _, tyX5, rfl, inTX5, tyX5_ok, wd_293, wd_294, wd_107, by
  intro X j hj
  rcases (show j = 0 ∨ j = 1 by omega) with rfl | rfl <;> rfl⟩
theorem ci_X9_103 : gwI RX9 103 yX5_init cX5_init 3 2 := ⟨wd_295, wd_296, rfl, wd_107, wd_297, by unfold gmh; decide +kernel⟩
theorem nw_X9_106 : gNw RX9 106 2 2 [vi 0, vn] := ⟨_, _, tyX1, rfl, inTX1, tyX1_ok, wd_298, wd_299, wd_103, by
  intro X j hj
  rcases (show j = 0 ∨ j = 1 by omega) with rfl | rfl <;> rfl⟩
theorem ci_X9_108 : gwI RX9 108 yX1_init cX1_init 3 2 := ⟨wd_300, wd_301, rfl, wd_103, wd_302, by unfold gmh; decide +kernel⟩
theorem nw_X9_109 : gNw RX9 109 1 2 [vi 0, vn] := ⟨_, _, tyX0, rfl, inTX0, tyX0_ok, wd_303, wd_304, wd_7, by
  intro X j hj
  rcases (show j = 0 ∨ j = 1 by omega) with rfl | rfl <;> rfl⟩
theorem ci_X9_111 : gwI RX9 111 yX0_init cX0_init 3 2 := ⟨wd_305, wd_153, rfl, wd_7, wd_154, by unfold gmh; decide +kernel⟩
theorem nw_X9_112 : gNw RX9 112 6 2 [vi 0, vn] := ⟨_, _, tyX6, rfl, inTX6, tyX6_ok, wd_306, wd_307, wd_12, by
  intro X j hj
  rcases (show j = 0 ∨ j = 1 by omega) with rfl | rfl <;> rfl⟩
theorem ci_X9_114 : gwI RX9 114 yX6_init cX6_init 3 2 := ⟨wd_308, wd_309, rfl, wd_12, wd_310, by unfold gmh; decide +kernel⟩
theorem nw_X9_115 : gNw RX9 115 4 2 [vi 0, vn] := ⟨_, _, tyX4, rfl, inTX4, tyX4_ok, wd_311, wd_312, wd_56, by
  intro X j hj
  rcases (show j = 0 ∨ j = 1 by omega) with rfl | rfl <;> rfl⟩
theorem ci_X9_117 : gwI RX9 117 yX4_init cX4_init 3 2 := ⟨wd_313, wd_55, rfl, wd_56, wd_57, by unfold gmh; decide +kernel⟩
theorem cv_X9_118_9 : gwV RX9 118 9 yX9_isFigure cX9_isFigure 2 (some .boolean) 1 := ⟨_, _, _, rfl, rfl, wd_314, wd_315, wd_316, wd_242, wd_317, by unfold gmh; decide +kernel⟩
theorem fp_X9_121_9 : gFp RX9 121 9 4 .int false := ⟨_, _, _, "PadPolish$Tape", tyX9, rfl, by decide, inTX9, wd_318, Or.inl rfl, tyX9_ok, nmX9, rfl, by decide +kernel, fun h => rfl⟩
theorem fp_X10_9_10 : gFp RX10 9 10 0 (.array .int) true := ⟨_, _, _, "PadPolish$Trace", tyX10, rfl, by decide, inTX10, wd_320, Or.inl rfl, tyX10_ok, nmX10, rfl, by decide +kernel, fun h => rfl⟩
theorem fd_X10_15_10 : gFd RX10 15 10 1 := ⟨_, _, _, "PadPolish$Trace", rfl, by decide, inTX10, wd_321, Or.inl rfl⟩
theorem fd_X10_9_10 : gFd RX10 9 10 0 := ⟨_, _, _, "PadPolish$Trace", rfl, by decide, inTX10, wd_320, Or.inl rfl⟩
theorem fp_X10_15_10 : gFp RX10 15 10 1 .int false := ⟨_, _, _, "PadPolish$Trace", tyX10, rfl, by decide, inTX10, wd_321, Or.inl rfl, tyX10_ok, nmX10, rfl, by decide +kernel, fun h => rfl⟩
theorem fp_X11_11_11 : gFp RX11 11 11 0 (.array (.object "PadPolish$Row")) true := ⟨_, _, _, "PadPolish", tyX11, rfl, by decide, inTX11, wd_324, Or.inl rfl, tyX11_ok, nmX11, rfl, by decide +kernel, fun h => rfl⟩
theorem nw_X11_15 : gNw RX11 15 9 5 [vn, vn, vi 0, vi 0, vi 0] := ⟨_, _, tyX9, rfl, inTX9, tyX9_ok, wd_325, wd_326, wd_242, by
  intro X j hj
  rcases (show j = 0 ∨ j = 1 ∨ j = 2 ∨ j = 3 ∨ j = 4 by omega) with rfl | rfl | rfl | rfl | rfl <;> rfl⟩
theorem ci_X11_17 : gwIN RX11 17 yX9_init cX9_init 1 0 := ⟨⟨_, nb_327⟩, wd_328, rfl, wd_242, wd_329, by unfold gmh; decide +kernel⟩
theorem fp_X11_18_11 : gFp RX11 18 11 1 (.object "PadPolish$Tape") true := ⟨_, _, _, "PadPolish", tyX11, rfl, by decide, inTX11, wd_330, Or.inl rfl, tyX11_ok, nmX11, rfl, by decide +kernel, fun h => rfl⟩
theorem fp_X11_24_11 : gFp RX11 24 11 2 (.array (.object "PadPolish$Table")) true := ⟨_, _, _, "PadPolish", tyX11, rfl, by decide, inTX11, wd_332, Or.inl rfl, tyX11_ok, nmX11, rfl, by decide +kernel, fun h => rfl⟩
theorem fp_X11_28_11 : gFp RX11 28 11 3 (.array .boolean) true := ⟨_, _, _, "PadPolish", tyX11, rfl, by decide, inTX11, wd_333, Or.inl rfl, tyX11_ok, nmX11, rfl, by decide +kernel, fun h => rfl⟩
theorem fp_X11_34_11 : gFp RX11 34 11 4 (.array (.object "PadPolish$Surface")) true := ⟨_, _, _, "PadPolish", tyX11, rfl, by decide, inTX11, wd_335, Or.inl rfl, tyX11_ok, nmX11, rfl, by decide +kernel, fun h => rfl⟩
theorem nw_X11_32 : gNw RX11 32 7 6 [vn, vn, vn, vi 0, vi 0, vi 0] := ⟨_, _, tyX7, rfl, inTX7, tyX7_ok, wd_334, wd_181, wd_17, by
  intro X j hj
  rcases (show j = 0 ∨ j = 1 ∨ j = 2 ∨ j = 3 ∨ j = 4 ∨ j = 5 by omega) with rfl | rfl | rfl | rfl | rfl | rfl <;> rfl⟩
theorem ci_X11_38 : gwIN RX11 38 yX7_init cX7_init 1 0 := ⟨⟨_, nb_336⟩, wd_183, rfl, wd_17, wd_184, by unfold gmh; decide +kernel⟩
theorem fp_X11_39_11 : gFp RX11 39 11 5 (.object "PadPolish$Surface") true := ⟨_, _, _, "PadPolish", tyX11, rfl, by decide, inTX11, wd_337, Or.inl rfl, tyX11_ok, nmX11, rfl, by decide +kernel, fun h => rfl⟩
theorem nw_X11_43 : gNw RX11 43 10 2 [vn, vi 0] := ⟨_, _, tyX10, rfl, inTX10, tyX10_ok, wd_338, wd_339, wd_35, by
  intro X j hj
  rcases (show j = 0 ∨ j = 1 by omega) with rfl | rfl <;> rfl⟩
theorem ci_X11_45 : gwIN RX11 45 yX10_init cX10_init 1 0 := ⟨⟨_, nb_340⟩, wd_341, rfl, wd_35, wd_342, by unfold gmh; decide +kernel⟩
theorem fp_X11_46_11 : gFp RX11 46 11 6 (.object "PadPolish$Trace") true := ⟨_, _, _, "PadPolish", tyX11, rfl, by decide, inTX11, wd_343, Or.inl rfl, tyX11_ok, nmX11, rfl, by decide +kernel, fun h => rfl⟩
theorem fp_X11_50_11 : gFp RX11 50 11 7 (.array .int) true := ⟨_, _, _, "PadPolish", tyX11, rfl, by decide, inTX11, wd_344, Or.inl rfl, tyX11_ok, nmX11, rfl, by decide +kernel, fun h => rfl⟩
theorem fp_X11_54_11 : gFp RX11 54 11 8 (.array .int) true := ⟨_, _, _, "PadPolish", tyX11, rfl, by decide, inTX11, wd_345, Or.inl rfl, tyX11_ok, nmX11, rfl, by decide +kernel, fun h => rfl⟩
theorem nw_X11_22 : gNw RX11 22 8 3 [vn, vn, vi 0] := ⟨_, _, tyX8, rfl, inTX8, tyX8_ok, wd_331, wd_346, wd_237, by
  intro X j hj
  rcases (show j = 0 ∨ j = 1 ∨ j = 2 by omega) with rfl | rfl | rfl <;> rfl⟩
theorem ci_X11_57 : gwIN RX11 57 yX8_init cX8_init 1 0 := ⟨⟨_, nb_347⟩, wd_348, rfl, wd_237, wd_349, by unfold gmh; decide +kernel⟩
theorem fp_X11_58_11 : gFp RX11 58 11 9 (.object "PadPolish$Table") false := ⟨_, _, _, "PadPolish", tyX11, rfl, by decide, inTX11, wd_350, Or.inl rfl, tyX11_ok, nmX11, rfl, by decide +kernel, fun h => rfl⟩
theorem fp_X11_62_11 : gFp RX11 62 11 10 (.object "PadPolish$Table") false := ⟨_, _, _, "PadPolish", tyX11, rfl, by decide, inTX11, wd_351, Or.inl rfl, tyX11_ok, nmX11, rfl, by decide +kernel, fun h => rfl⟩
theorem fd_X11_11_11 : gFd RX11 11 11 0 := ⟨_, _, _, "PadPolish", rfl, by decide, inTX11, wd_324, Or.inl rfl⟩
theorem nw_X11_9 : gNw RX11 9 3 3 [vn, vi 0, vi 0] := ⟨_, _, tyX3, rfl, inTX3, tyX3_ok, wd_323, wd_352, wd_353, by
  intro X j hj
  rcases (show j = 0 ∨ j = 1 ∨ j = 2 by omega) with rfl | rfl | rfl <;> rfl⟩
theorem ci_X11_65 : gwIN RX11 65 yX3_init cX3_init 1 0 := ⟨⟨_, nb_354⟩, wd_355, rfl, wd_353, wd_356, by unfold gmh; decide +kernel⟩
theorem fd_X11_24_11 : gFd RX11 24 11 2 := ⟨_, _, _, "PadPolish", rfl, by decide, inTX11, wd_332, Or.inl rfl⟩
theorem fd_X11_34_11 : gFd RX11 34 11 4 := ⟨_, _, _, "PadPolish", rfl, by decide, inTX11, wd_335, Or.inl rfl⟩
theorem cs_X11_66 : gwS RX11 66 yX11_isRow cX11_isRow 1 (some .boolean) 1 := ⟨wd_357, wd_358, wd_359, wd_360, by unfold gmh; decide +kernel⟩
theorem cs_X11_70 : gwS RX11 70 yX11_isWithin cX11_isWithin 3 (some .boolean) 3 := ⟨wd_361, wd_362, wd_359, wd_363, by unfold gmh; decide +kernel⟩
theorem cv_X11_75_11 : gwV RX11 75 11 yX11_found cX11_found 2 (some .int) 1 := ⟨_, _, _, rfl, rfl, wd_365, wd_366, wd_367, wd_359, wd_368, by unfold gmh; decide +kernel⟩
theorem cv_X11_79_3 : gwV RX11 79 3 yX3_begin cX3_begin 3 none 2 := ⟨_, _, _, rfl, rfl, wd_369, wd_370, wd_371, wd_353, wd_372, by unfold gmh; decide +kernel⟩
theorem cv_X11_83_11 : gwV RX11 83 11 yX11_unfound cX11_unfound 2 (some .int) 1 := ⟨_, _, _, rfl, rfl, wd_373, wd_374, wd_375, wd_359, wd_376, by unfold gmh; decide +kernel⟩
theorem cv_X11_86_3 : gwV RX11 86 3 yX3_isMissing cX3_isMissing 1 (some .boolean) 0 := ⟨_, _, _, rfl, rfl, wd_377, wd_378, wd_379, wd_353, wd_380, by unfold gmh; decide +kernel⟩
theorem cv_X11_90_3 : gwV RX11 90 3 yX3_reaches cX3_reaches 3 (some .boolean) 2 := ⟨_, _, _, rfl, rfl, wd_381, wd_382, wd_383, wd_353, wd_384, by unfold gmh; decide +kernel⟩
theorem cv_X11_94_3 : gwV RX11 94 3 yX3_put cX3_put 3 (some .int) 2 := ⟨_, _, _, rfl, rfl, wd_385, wd_386, wd_387, wd_353, wd_388, by unfold gmh; decide +kernel⟩
theorem fd_X11_98_3 : gFdN RX11 98 3 1 := ⟨_, _, _, "PadPolish$Row", "PadPolish", rfl, by decide, inTX3, nb_389, Or.inl rfl⟩
theorem fd_X11_102_3 : gFdN RX11 102 3 0 := ⟨_, _, _, "PadPolish$Row", "PadPolish", rfl, by decide, inTX3, nb_390, Or.inl rfl⟩
theorem fd_X11_111_3 : gFdN RX11 111 3 2 := ⟨_, _, _, "PadPolish$Row", "PadPolish", rfl, by decide, inTX3, nb_392, Or.inl rfl⟩
theorem fp_X11_111_3 : gFpN RX11 111 3 2 .int := ⟨_, _, _, "PadPolish$Row", "PadPolish", tyX3, rfl, by decide, inTX3, nb_392, Or.inl rfl, tyX3_ok, nmX3, rfl, by decide +kernel⟩
theorem fd_X11_18_11 : gFd RX11 18 11 1 := ⟨_, _, _, "PadPolish", rfl, by decide, inTX11, wd_330, Or.inl rfl⟩
theorem cv_X11_114_9 : gwV RX11 114 9 yX9_append cX9_append 2 (some .boolean) 1 := ⟨_, _, _, rfl, rfl, wd_393, wd_394, wd_395, wd_242, wd_396, by unfold gmh; decide +kernel⟩
theorem fd_X11_117_9 : gFdN RX11 117 9 2 := ⟨_, _, _, "PadPolish$Tape", "PadPolish", rfl, by decide, inTX9, nb_397, Or.inl rfl⟩
theorem fd_X11_62_11 : gFd RX11 62 11 10 := ⟨_, _, _, "PadPolish", rfl, by decide, inTX11, wd_351, Or.inl rfl⟩
theorem cv_X11_119_9 : gwV RX11 119 9 yX9_readInto cX9_readInto 2 (some .boolean) 1 := ⟨_, _, _, rfl, rfl, wd_399, wd_400, wd_401, wd_242, wd_402, by unfold gmh; decide +kernel⟩
theorem fp_X11_117_9 : gFpN RX11 117 9 2 .int := ⟨_, _, _, "PadPolish$Tape", "PadPolish", tyX9, rfl, by decide, inTX9, nb_397, Or.inl rfl, tyX9_ok, nmX9, rfl, by decide +kernel⟩
theorem fd_X11_123_9 : gFdN RX11 123 9 4 := ⟨_, _, _, "PadPolish$Tape", "PadPolish", rfl, by decide, inTX9, nb_403, Or.inl rfl⟩
theorem fp_X11_126_11 : gFp RX11 126 11 12 .int false := ⟨_, _, _, "PadPolish", tyX11, rfl, by decide, inTX11, wd_404, Or.inl rfl, tyX11_ok, nmX11, rfl, by decide +kernel, fun h => rfl⟩
theorem fd_X11_130_9 : gFdN RX11 130 9 3 := ⟨_, _, _, "PadPolish$Tape", "PadPolish", rfl, by decide, inTX9, nb_406, Or.inl rfl⟩
theorem fd_X11_58_11 : gFd RX11 58 11 9 := ⟨_, _, _, "PadPolish", rfl, by decide, inTX11, wd_350, Or.inl rfl⟩
theorem fp_X11_133_11 : gFp RX11 133 11 11 .boolean false := ⟨_, _, _, "PadPolish", tyX11, rfl, by decide, inTX11, wd_407, Or.inl rfl, tyX11_ok, nmX11, rfl, by decide +kernel, fun h => rfl⟩
theorem cv_X11_137_11 : gwV RX11 137 11 yX11_forgetActs cX11_forgetActs 1 none 0 := ⟨_, _, _, rfl, rfl, wd_408, wd_409, wd_410, wd_359, wd_411, by unfold gmh; decide +kernel⟩
theorem fd_X11_140_8 : gFdN RX11 140 8 1 := ⟨_, _, _, "PadPolish$Table", "PadPolish", rfl, by decide, inTX8, nb_412, Or.inl rfl⟩
theorem cv_X11_144_0 : gwV RX11 144 0 yJx4a65c_size_8abf5 cJx4a65c_size_8abf5 1 (some .int) 0 := ⟨_, _, _, rfl, rfl, wd_413, wd_203, wd_204, wd_188, wd_205, by unfold gmh; decide +kernel⟩
theorem fd_X11_126_11 : gFd RX11 126 11 12 := ⟨_, _, _, "PadPolish", rfl, by decide, inTX11, wd_404, Or.inl rfl⟩
theorem fd_X11_150_11 : gFd RX11 150 11 14 := ⟨_, _, _, "PadPolish", rfl, by decide, inTX11, wd_414, Or.inl rfl⟩
theorem fd_X11_154_11 : gFd RX11 154 11 13 := ⟨_, _, _, "PadPolish", rfl, by decide, inTX11, wd_416, Or.inl rfl⟩
theorem fp_X11_154_11 : gFp RX11 154 11 13 .int false := ⟨_, _, _, "PadPolish", tyX11, rfl, by decide, inTX11, wd_416, Or.inl rfl, tyX11_ok, nmX11, rfl, by decide +kernel, fun h => rfl⟩
theorem fp_X11_150_11 : gFp RX11 150 11 14 .int false := ⟨_, _, _, "PadPolish", tyX11, rfl, by decide, inTX11, wd_414, Or.inl rfl, tyX11_ok, nmX11, rfl, by decide +kernel, fun h => rfl⟩
theorem fd_X11_157_8 : gFdN RX11 157 8 0 := ⟨_, _, _, "PadPolish$Table", "PadPolish", rfl, by decide, inTX8, nb_417, Or.inl rfl⟩
theorem cv_X11_160_7 : gwV RX11 160 7 yX7_become cX7_become 2 none 1 := ⟨_, _, _, rfl, rfl, wd_418, wd_199, wd_200, wd_17, wd_201, by unfold gmh; decide +kernel⟩
theorem fd_X11_133_11 : gFd RX11 133 11 11 := ⟨_, _, _, "PadPolish", rfl, by decide, inTX11, wd_407, Or.inl rfl⟩
theorem cv_X11_164_11 : gwV RX11 164 11 yX11_keepAct cX11_keepAct 1 none 0 := ⟨_, _, _, rfl, rfl, wd_419, wd_420, wd_421, wd_359, wd_422, by unfold gmh; decide +kernel⟩
theorem cv_X11_167_7 : gwV RX11 167 7 yX7_soakPad cX7_soakPad 4 none 2 := ⟨_, _, _, rfl, rfl, wd_423, wd_424, wd_425, wd_17, wd_426, by unfold gmh; decide +kernel⟩
theorem fd_X11_170_7 : gFdN RX11 170 7 3 := ⟨_, _, _, "PadPolish$Surface", "PadPolish", rfl, by decide, inTX7, nb_427, Or.inl rfl⟩
theorem cv_X11_173_11 : gwV RX11 173 11 yX11_passOf cX11_passOf 2 (some (.object "PadPolish$Pass")) 1 := ⟨_, _, _, rfl, rfl, wd_428, wd_429, wd_430, wd_359, wd_431, by unfold gmh; decide +kernel⟩
theorem cu_X11_177_1 : gwU RX11 177 1 yX2_goAlong cX2_goAlong 6 none 1 := ⟨_, _, _, "PadPolish$Pass", yX2_goAlong, rfl, wd_432, wd_212, wd_213, wd_214, wd_2, wd_215, Or.inl rfl, by decide +kernel⟩
theorem cu_X11_177_2 : gwU RX11 177 2 yX2_goAlong cX2_goAlong 6 none 1 := ⟨_, _, _, "PadPolish$Pass", yX2_goAlong, rfl, wd_432, wd_212, wd_216, wd_214, wd_2, wd_215, Or.inl rfl, by decide +kernel⟩
theorem cu_X11_177_4 : gwU RX11 177 4 yX2_goAlong cX2_goAlong 6 none 1 := ⟨_, _, _, "PadPolish$Pass", yX2_goAlong, rfl, wd_432, wd_212, wd_217, wd_214, wd_2, wd_215, Or.inl rfl, by decide +kernel⟩
theorem cu_X11_177_5 : gwU RX11 177 5 yX2_goAlong cX2_goAlong 6 none 1 := ⟨_, _, _, "PadPolish$Pass", yX2_goAlong, rfl, wd_432, wd_212, wd_218, wd_214, wd_2, wd_215, Or.inl rfl, by decide +kernel⟩
theorem cu_X11_177_6 : gwU RX11 177 6 yX2_goAlong cX2_goAlong 6 none 1 := ⟨_, _, _, "PadPolish$Pass", yX2_goAlong, rfl, wd_432, wd_212, wd_219, wd_214, wd_2, wd_215, Or.inl rfl, by decide +kernel⟩
theorem cs_X11_182 : gwS RX11 182 yX11_isCell cX11_isCell 1 (some .boolean) 1 := ⟨wd_433, wd_434, wd_359, wd_435, by unfold gmh; decide +kernel⟩
theorem cv_X11_185_7 : gwV RX11 185 7 yX7_tearAt cX7_tearAt 2 none 1 := ⟨_, _, _, rfl, rfl, wd_436, wd_437, wd_438, wd_17, wd_439, by unfold gmh; decide +kernel⟩
theorem fd_X11_189_7 : gFdN RX11 189 7 0 := ⟨_, _, _, "PadPolish$Surface", "PadPolish", rfl, by decide, inTX7, nb_440, Or.inl rfl⟩
theorem fd_X11_192_8 : gFdN RX11 192 8 2 := ⟨_, _, _, "PadPolish$Table", "PadPolish", rfl, by decide, inTX8, nb_441, Or.inl rfl⟩
theorem cv_X11_195_7 : gwV RX11 195 7 yX7_sinkBy cX7_sinkBy 3 none 1 := ⟨_, _, _, rfl, rfl, wd_442, wd_443, wd_444, wd_17, wd_445, by unfold gmh; decide +kernel⟩
theorem cv_X11_198_7 : gwV RX11 198 7 yX7_allFilm cX7_allFilm 6 (some .int) 0 := ⟨_, _, _, rfl, rfl, wd_446, wd_447, wd_448, wd_17, wd_449, by unfold gmh; decide +kernel⟩
theorem fd_X11_201_7 : gFdN RX11 201 7 1 := ⟨_, _, _, "PadPolish$Surface", "PadPolish", rfl, by decide, inTX7, nb_450, Or.inl rfl⟩
theorem fd_X11_204_7 : gFdN RX11 204 7 2 := ⟨_, _, _, "PadPolish$Surface", "PadPolish", rfl, by decide, inTX7, nb_451, Or.inl rfl⟩
theorem cv_X11_207_8 : gwV RX11 207 8 yX8_passesAcross cX8_passesAcross 4 (some .int) 1 := ⟨_, _, _, rfl, rfl, wd_452, wd_453, wd_454, wd_237, wd_455, by unfold gmh; decide +kernel⟩
theorem fd_X11_210_1 : gFdN RX11 210 1 1 := ⟨_, _, _, "PadPolish$Pass", "PadPolish", rfl, by decide, inTX0, nb_456, Or.inl rfl⟩
theorem fd_X11_210_2 : gFdN RX11 210 2 1 := ⟨_, _, _, "PadPolish$Pass", "PadPolish", rfl, by decide, inTX1, nb_456, Or.inl rfl⟩
theorem fd_X11_210_4 : gFdN RX11 210 4 1 := ⟨_, _, _, "PadPolish$Pass", "PadPolish", rfl, by decide, inTX4, nb_456, Or.inl rfl⟩
theorem fd_X11_210_5 : gFdN RX11 210 5 1 := ⟨_, _, _, "PadPolish$Pass", "PadPolish", rfl, by decide, inTX5, nb_456, Or.inl rfl⟩
theorem fd_X11_210_6 : gFdN RX11 210 6 1 := ⟨_, _, _, "PadPolish$Pass", "PadPolish", rfl, by decide, inTX6, nb_456, Or.inl rfl⟩
theorem fd_X11_214_7 : gFdN RX11 214 7 4 := ⟨_, _, _, "PadPolish$Surface", "PadPolish", rfl, by decide, inTX7, nb_458, Or.inl rfl⟩
theorem fd_X11_217_7 : gFdN RX11 217 7 5 := ⟨_, _, _, "PadPolish$Surface", "PadPolish", rfl, by decide, inTX7, nb_459, Or.inl rfl⟩
theorem cv_X11_220_11 : gwV RX11 220 11 yX11_guessRounds cX11_guessRounds 3 none 1 := ⟨_, _, _, rfl, rfl, wd_460, wd_461, wd_462, wd_359, wd_463, by unfold gmh; decide +kernel⟩
theorem fd_X11_39_11 : gFd RX11 39 11 5 := ⟨_, _, _, "PadPolish", rfl, by decide, inTX11, wd_337, Or.inl rfl⟩
theorem cv_X11_223_7 : gwV RX11 223 7 yX7_unevenness cX7_unevenness 6 (some .int) 0 := ⟨_, _, _, rfl, rfl, wd_464, wd_465, wd_466, wd_17, wd_467, by unfold gmh; decide +kernel⟩
theorem cv_X11_226_11 : gwV RX11 226 11 yX11_findBestOrder cX11_findBestOrder 5 (some .int) 0 := ⟨_, _, _, rfl, rfl, wd_468, wd_469, wd_470, wd_359, wd_471, by unfold gmh; decide +kernel⟩
theorem fd_X11_54_11 : gFd RX11 54 11 8 := ⟨_, _, _, "PadPolish", rfl, by decide, inTX11, wd_345, Or.inl rfl⟩
theorem cv_X11_229_11 : gwV RX11 229 11 yX11_allPasses cX11_allPasses 1 (some .int) 0 := ⟨_, _, _, rfl, rfl, wd_472, wd_473, wd_474, wd_359, wd_475, by unfold gmh; decide +kernel⟩
theorem cv_X11_232_8 : gwV RX11 232 8 yX8_cellsOf cX8_cellsOf 4 (some .int) 1 := ⟨_, _, _, rfl, rfl, wd_476, wd_477, wd_478, wd_237, wd_479, by unfold gmh; decide +kernel⟩
theorem cv_X11_235_7 : gwV RX11 235 7 yX7_lackTo cX7_lackTo 5 (some .int) 2 := ⟨_, _, _, rfl, rfl, wd_480, wd_481, wd_482, wd_17, wd_483, by unfold gmh; decide +kernel⟩
theorem cv_X11_238_8 : gwV RX11 238 8 yX8_makeAll cX8_makeAll 3 none 1 := ⟨_, _, _, rfl, rfl, wd_484, wd_485, wd_486, wd_237, wd_487, by unfold gmh; decide +kernel⟩
theorem fp_X11_170_7 : gFpN RX11 170 7 3 .int := ⟨_, _, _, "PadPolish$Surface", "PadPolish", tyX7, rfl, by decide, inTX7, nb_427, Or.inl rfl, tyX7_ok, nmX7, rfl, by decide +kernel⟩
theorem cv_X11_241_11 : gwV RX11 241 11 yX11_gainsAlong cX11_gainsAlong 7 (some .boolean) 2 := ⟨_, _, _, rfl, rfl, wd_488, wd_489, wd_490, wd_359, wd_491, by unfold gmh; decide +kernel⟩
theorem cs_X11_245 : gwS RX11 245 yJ6_bitCount_0f7a4 cJ6_bitCount_0f7a4 1 (some .int) 1 := ⟨wd_492, wd_493, wd_494, wd_495, by unfold gmh; decide +kernel⟩
theorem cv_X11_250_8 : gwV RX11 250 8 yX8_makeSome cX8_makeSome 4 none 2 := ⟨_, _, _, rfl, rfl, wd_496, wd_497, wd_498, wd_237, wd_499, by unfold gmh; decide +kernel⟩
theorem cv_X11_254_3 : gwV RX11 254 3 yX3_tellsFilm cX3_tellsFilm 4 (some .boolean) 2 := ⟨_, _, _, rfl, rfl, wd_500, wd_501, wd_502, wd_353, wd_503, by unfold gmh; decide +kernel⟩
theorem cv_X11_258_7 : gwV RX11 258 7 yX7_thinnestCells cX7_thinnestCells 4 (some .int) 0 := ⟨_, _, _, rfl, rfl, wd_504, wd_505, wd_506, wd_17, wd_507, by unfold gmh; decide +kernel⟩
theorem cs_X11_263 : gwS RX11 263 yX11_power cX11_power 6 (some .long) 2 := ⟨wd_509, wd_510, wd_359, wd_511, by unfold gmh; decide +kernel⟩
theorem cs_X11_269 : gwS RX11 269 yX11_commonDivisor cX11_commonDivisor 11 (some .long) 2 := ⟨wd_513, wd_514, wd_359, wd_515, by unfold gmh; decide +kernel⟩
theorem cv_X11_278_0 : gwV RX11 278 0 yJx4a65c_get_915e3 cJx4a65c_get_915e3 2 (some (.object "java/lang/Object")) 1 := ⟨_, _, _, rfl, rfl, wd_519, wd_207, wd_208, wd_188, wd_209, by unfold gmh; decide +kernel⟩
theorem cv_X11_286_8 : gwV RX11 286 8 yX8_become cX8_become 2 none 1 := ⟨_, _, _, rfl, rfl, wd_523, wd_524, wd_525, wd_237, wd_526, by unfold gmh; decide +kernel⟩
theorem fd_X11_28_11 : gFd RX11 28 11 3 := ⟨_, _, _, "PadPolish", rfl, by decide, inTX11, wd_333, Or.inl rfl⟩
theorem cu_X11_289_1 : gwU RX11 289 1 yX0_kindNumber cX0_kindNumber 1 (some .int) 0 := ⟨_, _, _, "PadPolish$Pass", ⟨RX2, "kindNumber", "()I"⟩, rfl, wd_528, wd_529, wd_530, wd_531, wd_7, wd_532, Or.inr (Or.inl nb_527), by decide +kernel⟩
theorem cu_X11_289_2 : gwU RX11 289 2 yX1_kindNumber cX1_kindNumber 1 (some .int) 0 := ⟨_, _, _, "PadPolish$Pass", ⟨RX2, "kindNumber", "()I"⟩, rfl, wd_528, wd_529, wd_533, wd_534, wd_103, wd_535, Or.inr (Or.inl nb_527), by decide +kernel⟩
theorem cu_X11_289_4 : gwU RX11 289 4 yX4_kindNumber cX4_kindNumber 1 (some .int) 0 := ⟨_, _, _, "PadPolish$Pass", ⟨RX2, "kindNumber", "()I"⟩, rfl, wd_528, wd_529, wd_536, wd_537, wd_56, wd_538, Or.inr (Or.inl nb_527), by decide +kernel⟩
theorem cu_X11_289_5 : gwU RX11 289 5 yX5_kindNumber cX5_kindNumber 1 (some .int) 0 := ⟨_, _, _, "PadPolish$Pass", ⟨RX2, "kindNumber", "()I"⟩, rfl, wd_528, wd_529, wd_539, wd_540, wd_107, wd_541, Or.inr (Or.inl nb_527), by decide +kernel⟩
theorem cu_X11_289_6 : gwU RX11 289 6 yX6_kindNumber cX6_kindNumber 1 (some .int) 0 := ⟨_, _, _, "PadPolish$Pass", ⟨RX2, "kindNumber", "()I"⟩, rfl, wd_528, wd_529, wd_542, wd_543, wd_12, wd_544, Or.inr (Or.inl nb_527), by decide +kernel⟩
theorem cs_X11_292 : gwS RX11 292 yX11_isOfKind cX11_isOfKind 2 (some .boolean) 2 := ⟨wd_545, wd_546, wd_359, wd_547, by unfold gmh; decide +kernel⟩
theorem fd_X11_46_11 : gFd RX11 46 11 6 := ⟨_, _, _, "PadPolish", rfl, by decide, inTX11, wd_343, Or.inl rfl⟩
theorem fp_X11_295_10 : gFpN RX11 295 10 1 .int := ⟨_, _, _, "PadPolish$Trace", "PadPolish", tyX10, rfl, by decide, inTX10, nb_548, Or.inl rfl, tyX10_ok, nmX10, rfl, by decide +kernel⟩
theorem cu_X11_296_1 : gwU RX11 296 1 yX0_size cX0_size 3 (some .int) 2 := ⟨_, _, _, "PadPolish$Pass", yX2_size, rfl, wd_549, wd_38, wd_550, wd_47, wd_7, wd_49, Or.inr (Or.inr ⟨wd_40, _, _, _, wd_41⟩), by decide +kernel⟩
theorem cu_X11_296_2 : gwU RX11 296 2 yX4_size cX4_size 4 (some .int) 2 := ⟨_, _, _, "PadPolish$Pass", yX2_size, rfl, wd_549, wd_38, wd_551, wd_149, wd_56, wd_150, Or.inr (Or.inr ⟨wd_40, _, _, _, wd_41⟩), by decide +kernel⟩
theorem cu_X11_296_4 : gwU RX11 296 4 yX4_size cX4_size 4 (some .int) 2 := ⟨_, _, _, "PadPolish$Pass", yX2_size, rfl, wd_549, wd_38, wd_552, wd_149, wd_56, wd_150, Or.inr (Or.inr ⟨wd_40, _, _, _, wd_41⟩), by decide +kernel⟩
theorem cu_X11_296_5 : gwU RX11 296 5 yX5_size cX5_size 3 (some .int) 2 := ⟨_, _, _, "PadPolish$Pass", yX2_size, rfl, wd_549, wd_38, wd_553, wd_554, wd_107, wd_555, Or.inr (Or.inr ⟨wd_40, _, _, _, wd_41⟩), by decide +kernel⟩
theorem cu_X11_296_6 : gwU RX11 296 6 yX6_size cX6_size 3 (some .int) 2 := ⟨_, _, _, "PadPolish$Pass", yX2_size, rfl, wd_549, wd_38, wd_556, wd_52, wd_12, wd_53, Or.inr (Or.inr ⟨wd_40, _, _, _, wd_41⟩), by decide +kernel⟩
theorem cu_X11_299_1 : gwU RX11 299 1 yX0_mark cX0_mark 4 (some .int) 2 := ⟨_, _, _, "PadPolish$Pass", yX2_mark, rfl, wd_557, wd_43, wd_558, wd_559, wd_7, wd_560, Or.inr (Or.inr ⟨wd_44, _, _, _, wd_45⟩), by decide +kernel⟩
theorem cu_X11_299_2 : gwU RX11 299 2 yX1_mark cX1_mark 3 (some .int) 2 := ⟨_, _, _, "PadPolish$Pass", yX2_mark, rfl, wd_557, wd_43, wd_561, wd_136, wd_103, wd_137, Or.inr (Or.inr ⟨wd_44, _, _, _, wd_45⟩), by decide +kernel⟩
theorem cu_X11_299_4 : gwU RX11 299 4 yX4_mark cX4_mark 3 (some .int) 2 := ⟨_, _, _, "PadPolish$Pass", yX2_mark, rfl, wd_557, wd_43, wd_562, wd_67, wd_56, wd_68, Or.inr (Or.inr ⟨wd_44, _, _, _, wd_45⟩), by decide +kernel⟩
theorem cu_X11_299_5 : gwU RX11 299 5 yX5_mark cX5_mark 3 (some .int) 2 := ⟨_, _, _, "PadPolish$Pass", yX2_mark, rfl, wd_557, wd_43, wd_563, wd_139, wd_107, wd_140, Or.inr (Or.inr ⟨wd_44, _, _, _, wd_45⟩), by decide +kernel⟩
theorem cu_X11_299_6 : gwU RX11 299 6 yX0_mark cX0_mark 4 (some .int) 2 := ⟨_, _, _, "PadPolish$Pass", yX2_mark, rfl, wd_557, wd_43, wd_564, wd_559, wd_7, wd_560, Or.inr (Or.inr ⟨wd_44, _, _, _, wd_45⟩), by decide +kernel⟩
theorem fd_X11_295_10 : gFdN RX11 295 10 1 := ⟨_, _, _, "PadPolish$Trace", "PadPolish", rfl, by decide, inTX10, nb_548, Or.inl rfl⟩
theorem fd_X11_302_10 : gFdN RX11 302 10 0 := ⟨_, _, _, "PadPolish$Trace", "PadPolish", rfl, by decide, inTX10, nb_565, Or.inl rfl⟩
theorem cv_X11_305_11 : gwV RX11 305 11 yX11_rowsThere cX11_rowsThere 6 (some .int) 0 := ⟨_, _, _, rfl, rfl, wd_566, wd_567, wd_568, wd_359, wd_569, by unfold gmh; decide +kernel⟩
theorem cs_X11_308 : gwS RX11 308 yX11_cellsAboveNone cX11_cellsAboveNone 6 (some .int) 1 := ⟨wd_570, wd_571, wd_359, wd_572, by unfold gmh; decide +kernel⟩
theorem fd_X11_312_11 : gFd RX11 312 11 15 := ⟨_, _, _, "PadPolish", rfl, by decide, inTX11, wd_573, Or.inl rfl⟩
theorem fp_X11_312_11 : gFp RX11 312 11 15 .int false := ⟨_, _, _, "PadPolish", tyX11, rfl, by decide, inTX11, wd_573, Or.inl rfl, tyX11_ok, nmX11, rfl, by decide +kernel, fun h => rfl⟩
theorem cv_X11_324_11 : gwV RX11 324 11 yX11_spellOrder cX11_spellOrder 6 (some .boolean) 2 := ⟨_, _, _, rfl, rfl, wd_576, wd_577, wd_578, wd_359, wd_579, by unfold gmh; decide +kernel⟩
theorem fd_X11_50_11 : gFd RX11 50 11 7 := ⟨_, _, _, "PadPolish", rfl, by decide, inTX11, wd_344, Or.inl rfl⟩
theorem fp_X12_7_12 : gFp RX12 7 12 2 (.array .int) true := ⟨_, _, _, "PadPolishModel", tyX12, rfl, by decide, inTX12, wd_586, Or.inl rfl, tyX12_ok, nmX12, rfl, by decide +kernel, fun h => rfl⟩
theorem fp_X12_13_12 : gFp RX12 13 12 3 (.array .int) true := ⟨_, _, _, "PadPolishModel", tyX12, rfl, by decide, inTX12, wd_587, Or.inl rfl, tyX12_ok, nmX12, rfl, by decide +kernel, fun h => rfl⟩
theorem fp_X12_16_12 : gFp RX12 16 12 4 (.array .int) true := ⟨_, _, _, "PadPolishModel", tyX12, rfl, by decide, inTX12, wd_588, Or.inl rfl, tyX12_ok, nmX12, rfl, by decide +kernel, fun h => rfl⟩
theorem fp_X12_19_12 : gFp RX12 19 12 5 (.array .int) true := ⟨_, _, _, "PadPolishModel", tyX12, rfl, by decide, inTX12, wd_589, Or.inl rfl, tyX12_ok, nmX12, rfl, by decide +kernel, fun h => rfl⟩
theorem fp_X12_22_12 : gFp RX12 22 12 6 (.array .int) true := ⟨_, _, _, "PadPolishModel", tyX12, rfl, by decide, inTX12, wd_590, Or.inl rfl, tyX12_ok, nmX12, rfl, by decide +kernel, fun h => rfl⟩
theorem fp_X12_25_12 : gFp RX12 25 12 7 (.array .int) true := ⟨_, _, _, "PadPolishModel", tyX12, rfl, by decide, inTX12, wd_591, Or.inl rfl, tyX12_ok, nmX12, rfl, by decide +kernel, fun h => rfl⟩
theorem fp_X12_28_12 : gFp RX12 28 12 8 (.array .int) true := ⟨_, _, _, "PadPolishModel", tyX12, rfl, by decide, inTX12, wd_592, Or.inl rfl, tyX12_ok, nmX12, rfl, by decide +kernel, fun h => rfl⟩
theorem fp_X12_31_12 : gFp RX12 31 12 10 (.array .int) true := ⟨_, _, _, "PadPolishModel", tyX12, rfl, by decide, inTX12, wd_593, Or.inl rfl, tyX12_ok, nmX12, rfl, by decide +kernel, fun h => rfl⟩
theorem fp_X12_34_12 : gFp RX12 34 12 20 (.array .boolean) true := ⟨_, _, _, "PadPolishModel", tyX12, rfl, by decide, inTX12, wd_594, Or.inl rfl, tyX12_ok, nmX12, rfl, by decide +kernel, fun h => rfl⟩
theorem fp_X12_38_12 : gFp RX12 38 12 21 (.array .int) true := ⟨_, _, _, "PadPolishModel", tyX12, rfl, by decide, inTX12, wd_595, Or.inl rfl, tyX12_ok, nmX12, rfl, by decide +kernel, fun h => rfl⟩
theorem fp_X12_41_12 : gFp RX12 41 12 22 (.array .int) true := ⟨_, _, _, "PadPolishModel", tyX12, rfl, by decide, inTX12, wd_596, Or.inl rfl, tyX12_ok, nmX12, rfl, by decide +kernel, fun h => rfl⟩
theorem fp_X12_48_12 : gFp RX12 48 12 1 .int false := ⟨_, _, _, "PadPolishModel", tyX12, rfl, by decide, inTX12, wd_597, Or.inl rfl, tyX12_ok, nmX12, rfl, by decide +kernel, fun h => rfl⟩
theorem cs_X12_54 : gwS RX12 54 yX12_in cX12_in 6 (some .boolean) 3 := ⟨wd_600, wd_601, wd_602, wd_603, by unfold gmh; decide +kernel⟩
theorem fp_X12_44_12 : gFp RX12 44 12 0 .int false := ⟨_, _, _, "PadPolishModel", tyX12, rfl, by decide, inTX12, wd_604, Or.inl rfl, tyX12_ok, nmX12, rfl, by decide +kernel, fun h => rfl⟩
theorem cs_X12_58 : gwS RX12 58 yX12_isRow cX12_isRow 1 (some .boolean) 1 := ⟨wd_605, wd_606, wd_602, wd_607, by unfold gmh; decide +kernel⟩
theorem cv_X12_65_12 : gwV RX12 65 12 yX12_finding cX12_finding 2 (some .int) 1 := ⟨_, _, _, rfl, rfl, wd_610, wd_611, wd_612, wd_602, wd_613, by unfold gmh; decide +kernel⟩
theorem fd_X12_7_12 : gFd RX12 7 12 2 := ⟨_, _, _, "PadPolishModel", rfl, by decide, inTX12, wd_586, Or.inl rfl⟩
theorem fd_X12_13_12 : gFd RX12 13 12 3 := ⟨_, _, _, "PadPolishModel", rfl, by decide, inTX12, wd_587, Or.inl rfl⟩
theorem fd_X12_16_12 : gFd RX12 16 12 4 := ⟨_, _, _, "PadPolishModel", rfl, by decide, inTX12, wd_588, Or.inl rfl⟩
theorem fd_X12_71_12 : gFd RX12 71 12 11 := ⟨_, _, _, "PadPolishModel", rfl, by decide, inTX12, wd_615, Or.inl rfl⟩
theorem fd_X12_31_12 : gFd RX12 31 12 10 := ⟨_, _, _, "PadPolishModel", rfl, by decide, inTX12, wd_593, Or.inl rfl⟩
theorem fp_X12_71_12 : gFp RX12 71 12 11 .int false := ⟨_, _, _, "PadPolishModel", tyX12, rfl, by decide, inTX12, wd_615, Or.inl rfl, tyX12_ok, nmX12, rfl, by decide +kernel, fun h => rfl⟩
theorem fd_X12_75_12 : gFd RX12 75 12 16 := ⟨_, _, _, "PadPolishModel", rfl, by decide, inTX12, wd_617, Or.inl rfl⟩
theorem fp_X12_75_12 : gFp RX12 75 12 16 .int false := ⟨_, _, _, "PadPolishModel", tyX12, rfl, by decide, inTX12, wd_617, Or.inl rfl, tyX12_ok, nmX12, rfl, by decide +kernel, fun h => rfl⟩
theorem fd_X12_78_12 : gFd RX12 78 12 13 := ⟨_, _, _, "PadPolishModel", rfl, by decide, inTX12, wd_618, Or.inl rfl⟩
theorem fp_X12_81_12 : gFp RX12 81 12 17 .int false := ⟨_, _, _, "PadPolishModel", tyX12, rfl, by decide, inTX12, wd_619, Or.inl rfl, tyX12_ok, nmX12, rfl, by decide +kernel, fun h => rfl⟩
theorem fd_X12_84_12 : gFd RX12 84 12 12 := ⟨_, _, _, "PadPolishModel", rfl, by decide, inTX12, wd_620, Or.inl rfl⟩
theorem fp_X12_78_12 : gFp RX12 78 12 13 .int false := ⟨_, _, _, "PadPolishModel", tyX12, rfl, by decide, inTX12, wd_618, Or.inl rfl, tyX12_ok, nmX12, rfl, by decide +kernel, fun h => rfl⟩
theorem fp_X12_88_12 : gFp RX12 88 12 15 .int false := ⟨_, _, _, "PadPolishModel", tyX12, rfl, by decide, inTX12, wd_622, Or.inl rfl, tyX12_ok, nmX12, rfl, by decide +kernel, fun h => rfl⟩
theorem fd_X12_88_12 : gFd RX12 88 12 15 := ⟨_, _, _, "PadPolishModel", rfl, by decide, inTX12, wd_622, Or.inl rfl⟩
theorem fp_X12_99_12 : gFp RX12 99 12 14 .int false := ⟨_, _, _, "PadPolishModel", tyX12, rfl, by decide, inTX12, wd_627, Or.inl rfl, tyX12_ok, nmX12, rfl, by decide +kernel, fun h => rfl⟩
theorem fp_X12_84_12 : gFp RX12 84 12 12 .int false := ⟨_, _, _, "PadPolishModel", tyX12, rfl, by decide, inTX12, wd_620, Or.inl rfl, tyX12_ok, nmX12, rfl, by decide +kernel, fun h => rfl⟩
theorem fd_X12_99_12 : gFd RX12 99 12 14 := ⟨_, _, _, "PadPolishModel", rfl, by decide, inTX12, wd_627, Or.inl rfl⟩
theorem cv_X12_102_12 : gwV RX12 102 12 yX12_bad cX12_bad 2 none 1 := ⟨_, _, _, rfl, rfl, wd_628, wd_629, wd_630, wd_602, wd_631, by unfold gmh; decide +kernel⟩
theorem cv_X12_106_12 : gwV RX12 106 12 yX12_nextToken cX12_nextToken 1 none 0 := ⟨_, _, _, rfl, rfl, wd_632, wd_633, wd_634, wd_602, wd_635, by unfold gmh; decide +kernel⟩
theorem cv_X12_109_12 : gwV RX12 109 12 yX12_must cX12_must 2 none 1 := ⟨_, _, _, rfl, rfl, wd_636, wd_637, wd_638, wd_602, wd_639, by unfold gmh; decide +kernel⟩
theorem fd_X12_113_12 : gFd RX12 113 12 18 := ⟨_, _, _, "PadPolishModel", rfl, by decide, inTX12, wd_640, Or.inl rfl⟩
theorem fp_X12_113_12 : gFp RX12 113 12 18 .int false := ⟨_, _, _, "PadPolishModel", tyX12, rfl, by decide, inTX12, wd_640, Or.inl rfl, tyX12_ok, nmX12, rfl, by decide +kernel, fun h => rfl⟩
theorem cv_X12_116_12 : gwV RX12 116 12 yX12_number cX12_number 4 (some .int) 2 := ⟨_, _, _, rfl, rfl, wd_641, wd_642, wd_643, wd_602, wd_644, by unfold gmh; decide +kernel⟩
theorem cv_X12_120_12 : gwV RX12 120 12 yX12_mustSign cX12_mustSign 2 none 1 := ⟨_, _, _, rfl, rfl, wd_645, wd_646, wd_647, wd_602, wd_648, by unfold gmh; decide +kernel⟩
theorem fd_X12_22_12 : gFd RX12 22 12 6 := ⟨_, _, _, "PadPolishModel", rfl, by decide, inTX12, wd_590, Or.inl rfl⟩
theorem fp_X12_123_12 : gFp RX12 123 12 19 .int false := ⟨_, _, _, "PadPolishModel", tyX12, rfl, by decide, inTX12, wd_649, Or.inl rfl, tyX12_ok, nmX12, rfl, by decide +kernel, fun h => rfl⟩
theorem cs_X12_126 : gwS RX12 126 yX12_kindBy cX12_kindBy 1 (some .int) 1 := ⟨wd_650, wd_651, wd_602, wd_652, by unfold gmh; decide +kernel⟩
theorem cs_X12_129 : gwS RX12 129 yX12_stepFrom cX12_stepFrom 3 (some .int) 2 := ⟨wd_653, wd_654, wd_602, wd_655, by unfold gmh; decide +kernel⟩
theorem cv_X12_132_12 : gwV RX12 132 12 yX12_begin cX12_begin 1 none 0 := ⟨_, _, _, rfl, rfl, wd_656, wd_657, wd_658, wd_602, wd_659, by unfold gmh; decide +kernel⟩
theorem cv_X12_135_12 : gwV RX12 135 12 yX12_isLetter cX12_isLetter 2 (some .boolean) 1 := ⟨_, _, _, rfl, rfl, wd_660, wd_661, wd_662, wd_602, wd_663, by unfold gmh; decide +kernel⟩
theorem cv_X12_138_12 : gwV RX12 138 12 yX12_readCell cX12_readCell 5 none 2 := ⟨_, _, _, rfl, rfl, wd_664, wd_665, wd_666, wd_602, wd_667, by unfold gmh; decide +kernel⟩
theorem fd_X12_123_12 : gFd RX12 123 12 19 := ⟨_, _, _, "PadPolishModel", rfl, by decide, inTX12, wd_649, Or.inl rfl⟩
theorem cv_X12_142_12 : gwV RX12 142 12 yX12_readPass cX12_readPass 5 none 0 := ⟨_, _, _, rfl, rfl, wd_668, wd_669, wd_670, wd_602, wd_671, by unfold gmh; decide +kernel⟩
theorem cv_X12_145_12 : gwV RX12 145 12 yX12_failed cX12_failed 1 (some .boolean) 0 := ⟨_, _, _, rfl, rfl, wd_672, wd_673, wd_674, wd_602, wd_675, by unfold gmh; decide +kernel⟩
theorem fd_X12_81_12 : gFd RX12 81 12 17 := ⟨_, _, _, "PadPolishModel", rfl, by decide, inTX12, wd_619, Or.inl rfl⟩
theorem fp_X12_150_12 : gFp RX12 150 12 9 .int false := ⟨_, _, _, "PadPolishModel", tyX12, rfl, by decide, inTX12, wd_677, Or.inl rfl, tyX12_ok, nmX12, rfl, by decide +kernel, fun h => rfl⟩
theorem fd_X12_19_12 : gFd RX12 19 12 5 := ⟨_, _, _, "PadPolishModel", rfl, by decide, inTX12, wd_589, Or.inl rfl⟩
theorem cv_X12_157_12 : gwV RX12 157 12 yX12_cellsOf cX12_cellsOf 2 (some .int) 1 := ⟨_, _, _, rfl, rfl, wd_680, wd_681, wd_682, wd_602, wd_683, by unfold gmh; decide +kernel⟩
theorem cv_X12_160_12 : gwV RX12 160 12 yX12_cellAt cX12_cellAt 3 (some .int) 2 := ⟨_, _, _, rfl, rfl, wd_684, wd_685, wd_686, wd_602, wd_687, by unfold gmh; decide +kernel⟩
theorem cs_X12_163 : gwS RX12 163 yX12_lay cX12_lay 5 none 3 := ⟨wd_688, wd_689, wd_602, wd_690, by unfold gmh; decide +kernel⟩
theorem cv_X12_167_12 : gwV RX12 167 12 yX12_kindOf cX12_kindOf 2 (some .int) 1 := ⟨_, _, _, rfl, rfl, wd_691, wd_692, wd_693, wd_602, wd_694, by unfold gmh; decide +kernel⟩
theorem cs_X12_170 : gwS RX12 170 yX12_goOver cX12_goOver 6 none 3 := ⟨wd_695, wd_696, wd_602, wd_697, by unfold gmh; decide +kernel⟩
theorem cv_X12_173_12 : gwV RX12 173 12 yX12_pass cX12_pass 4 none 2 := ⟨_, _, _, rfl, rfl, wd_698, wd_699, wd_700, wd_602, wd_701, by unfold gmh; decide +kernel⟩
theorem fd_X12_25_12 : gFd RX12 25 12 7 := ⟨_, _, _, "PadPolishModel", rfl, by decide, inTX12, wd_591, Or.inl rfl⟩
theorem fd_X12_150_12 : gFd RX12 150 12 9 := ⟨_, _, _, "PadPolishModel", rfl, by decide, inTX12, wd_677, Or.inl rfl⟩
theorem fd_X12_28_12 : gFd RX12 28 12 8 := ⟨_, _, _, "PadPolishModel", rfl, by decide, inTX12, wd_592, Or.inl rfl⟩
theorem cv_X12_177_12 : gwV RX12 177 12 yX12_isThere cX12_isThere 1 (some .boolean) 0 := ⟨_, _, _, rfl, rfl, wd_702, wd_703, wd_704, wd_602, wd_705, by unfold gmh; decide +kernel⟩
theorem cv_X12_183_12 : gwV RX12 183 12 yX12_keep cX12_keep 2 none 0 := ⟨_, _, _, rfl, rfl, wd_708, wd_709, wd_710, wd_602, wd_711, by unfold gmh; decide +kernel⟩
theorem cs_X12_186 : gwS RX12 186 yX12_atMost cX12_atMost 2 (some .int) 2 := ⟨wd_712, wd_713, wd_602, wd_714, by unfold gmh; decide +kernel⟩
theorem cv_X12_189_12 : gwV RX12 189 12 yX12_isPass cX12_isPass 2 (some .boolean) 1 := ⟨_, _, _, rfl, rfl, wd_715, wd_716, wd_717, wd_602, wd_718, by unfold gmh; decide +kernel⟩
theorem cs_X12_192 : gwS RX12 192 yX12_isCell cX12_isCell 1 (some .boolean) 1 := ⟨wd_719, wd_720, wd_602, wd_721, by unfold gmh; decide +kernel⟩
theorem cs_X12_195 : gwS RX12 195 yX12_stands cX12_stands 2 none 2 := ⟨wd_722, wd_723, wd_602, wd_724, by unfold gmh; decide +kernel⟩
theorem cs_X12_198 : gwS RX12 198 yX12_rests cX12_rests 2 none 1 := ⟨wd_725, wd_726, wd_602, wd_727, by unfold gmh; decide +kernel⟩
theorem cs_X12_202 : gwS RX12 202 yX12_filmOf cX12_filmOf 3 (some .int) 1 := ⟨wd_728, wd_729, wd_602, wd_730, by unfold gmh; decide +kernel⟩
theorem cv_X12_208_12 : gwV RX12 208 12 yX12_overBy cX12_overBy 4 (some .int) 1 := ⟨_, _, _, rfl, rfl, wd_732, wd_733, wd_734, wd_602, wd_735, by unfold gmh; decide +kernel⟩
theorem cv_X12_211_12 : gwV RX12 211 12 yX12_layThen cX12_layThen 2 none 0 := ⟨_, _, _, rfl, rfl, wd_736, wd_737, wd_738, wd_602, wd_739, by unfold gmh; decide +kernel⟩
theorem cv_X12_214_12 : gwV RX12 214 12 yX12_allPasses cX12_allPasses 3 none 1 := ⟨_, _, _, rfl, rfl, wd_740, wd_741, wd_742, wd_602, wd_743, by unfold gmh; decide +kernel⟩
theorem cv_X12_219_12 : gwV RX12 219 12 yX12_layAhead cX12_layAhead 3 none 1 := ⟨_, _, _, rfl, rfl, wd_745, wd_746, wd_747, wd_602, wd_748, by unfold gmh; decide +kernel⟩
theorem cs_X12_222 : gwS RX12 222 yX12_unevenOf cX12_unevenOf 4 (some .int) 1 := ⟨wd_749, wd_750, wd_602, wd_751, by unfold gmh; decide +kernel⟩
theorem cv_X12_225_12 : gwV RX12 225 12 yX12_placed cX12_placed 3 (some .int) 2 := ⟨_, _, _, rfl, rfl, wd_752, wd_753, wd_754, wd_602, wd_755, by unfold gmh; decide +kernel⟩
theorem cv_X12_230_12 : gwV RX12 230 12 yX12_isOrder cX12_isOrder 4 (some .boolean) 1 := ⟨_, _, _, rfl, rfl, wd_757, wd_758, wd_759, wd_602, wd_760, by unfold gmh; decide +kernel⟩
theorem cv_X12_235_12 : gwV RX12 235 12 yX12_overAll cX12_overAll 3 (some .int) 0 := ⟨_, _, _, rfl, rfl, wd_762, wd_763, wd_764, wd_602, wd_765, by unfold gmh; decide +kernel⟩
theorem cs_X12_239 : gwS RX12 239 yX12_areCells cX12_areCells 1 (some .boolean) 1 := ⟨wd_766, wd_767, wd_602, wd_768, by unfold gmh; decide +kernel⟩
theorem cs_X12_242 : gwS RX12 242 yX12_bits cX12_bits 3 (some .int) 1 := ⟨wd_769, wd_770, wd_602, wd_771, by unfold gmh; decide +kernel⟩
theorem fd_X12_38_12 : gFd RX12 38 12 21 := ⟨_, _, _, "PadPolishModel", rfl, by decide, inTX12, wd_595, Or.inl rfl⟩
theorem fd_X12_34_12 : gFd RX12 34 12 20 := ⟨_, _, _, "PadPolishModel", rfl, by decide, inTX12, wd_594, Or.inl rfl⟩
theorem cs_X12_261 : gwS RX12 261 yX12_isOf cX12_isOf 2 (some .boolean) 2 := ⟨wd_780, wd_781, wd_602, wd_782, by unfold gmh; decide +kernel⟩
theorem fd_X12_265_12 : gFd RX12 265 12 23 := ⟨_, _, _, "PadPolishModel", rfl, by decide, inTX12, wd_783, Or.inl rfl⟩
theorem fd_X12_41_12 : gFd RX12 41 12 22 := ⟨_, _, _, "PadPolishModel", rfl, by decide, inTX12, wd_596, Or.inl rfl⟩
theorem fp_X12_265_12 : gFp RX12 265 12 23 .int false := ⟨_, _, _, "PadPolishModel", tyX12, rfl, by decide, inTX12, wd_783, Or.inl rfl, tyX12_ok, nmX12, rfl, by decide +kernel, fun h => rfl⟩
theorem cv_X12_268_12 : gwV RX12 268 12 yX12_began cX12_began 2 none 1 := ⟨_, _, _, rfl, rfl, wd_784, wd_785, wd_786, wd_602, wd_787, by unfold gmh; decide +kernel⟩
theorem cv_X12_271_12 : gwV RX12 271 12 yX12_plainSize cX12_plainSize 2 (some .int) 1 := ⟨_, _, _, rfl, rfl, wd_788, wd_789, wd_790, wd_602, wd_791, by unfold gmh; decide +kernel⟩
theorem cv_X12_274_12 : gwV RX12 274 12 yX12_clearSize cX12_clearSize 3 (some .int) 1 := ⟨_, _, _, rfl, rfl, wd_792, wd_793, wd_794, wd_602, wd_795, by unfold gmh; decide +kernel⟩
theorem cv_X12_277_12 : gwV RX12 277 12 yX12_markOf cX12_markOf 4 (some .int) 1 := ⟨_, _, _, rfl, rfl, wd_796, wd_797, wd_798, wd_602, wd_799, by unfold gmh; decide +kernel⟩
theorem cv_X12_280_12 : gwV RX12 280 12 yX12_sizeOf cX12_sizeOf 4 (some .int) 1 := ⟨_, _, _, rfl, rfl, wd_800, wd_801, wd_802, wd_602, wd_803, by unfold gmh; decide +kernel⟩
theorem fd_X12_48_12 : gFd RX12 48 12 1 := ⟨_, _, _, "PadPolishModel", rfl, by decide, inTX12, wd_597, Or.inl rfl⟩
theorem ci_Jxc12de_1 : gwI RJxc12de 1 yJxa1e45_init_da8c8 cJxa1e45_init_da8c8 1 0 := ⟨wd_808, wd_809, rfl, wd_810, wd_811, by unfold gmh; decide +kernel⟩
theorem fp_Jxc12de_7_0 : gFp RJxc12de 7 0 0 .int false := ⟨_, _, _, "java/util/AbstractList", tyJx4a65c, rfl, by decide, inTJx4a65c, wd_812, Or.inl rfl, tyJx4a65c_ok, nmJx4a65c, rfl, by decide +kernel, fun h => rfl⟩
theorem ci_Jx4a65c_1 : gwI RJx4a65c 1 yJxc12de_init_da8c8 cJxc12de_init_da8c8 1 0 := ⟨wd_813, wd_814, rfl, wd_815, wd_816, by unfold gmh; decide +kernel⟩
theorem fp_Jx4a65c_9_0 : gFp RJx4a65c 9 0 1 (.array (.object "java/lang/Object")) false := ⟨_, _, _, "java/util/ArrayList", tyJx4a65c, rfl, by decide, inTJx4a65c, wd_817, Or.inl rfl, tyJx4a65c_ok, nmJx4a65c, rfl, by decide +kernel, fun h => rfl⟩
theorem fd_Jx4a65c_9_0 : gFd RJx4a65c 9 0 1 := ⟨_, _, _, "java/util/ArrayList", rfl, by decide, inTJx4a65c, wd_817, Or.inl rfl⟩
theorem cs_Jx4a65c_73 : gwS RJx4a65c 73 yJ8_newLength_cabcc cJ8_newLength_cabcc 4 (some .int) 3 := ⟨wd_818, wd_819, wd_820, wd_821, by unfold gmh; decide +kernel⟩
theorem cs_Jx4a65c_66 : gwS RJx4a65c 66 yJ7_copyOf_1904c cJ7_copyOf_1904c 2 (some (.array (.object "java/lang/Object"))) 2 := ⟨wd_822, wd_823, wd_92, wd_824, by unfold gmh; decide +kernel⟩
theorem fd_Jx4a65c_48_0 : gFd RJx4a65c 48 0 2 := ⟨_, _, _, "java/util/ArrayList", rfl, by decide, inTJx4a65c, wd_827, Or.inl rfl⟩
theorem cv_Jx4a65c_69_0 : gwV RJx4a65c 69 0 yJx4a65c_grow_92f84 cJx4a65c_grow_92f84 4 (some (.array (.object "java/lang/Object"))) 1 := ⟨_, _, _, rfl, rfl, wd_828, wd_829, wd_830, wd_188, wd_831, by unfold gmh; decide +kernel⟩
theorem cs_Jx4a65c_118 : gwS RJx4a65c 118 yJ15_checkIndex_7cf53 cJ15_checkIndex_7cf53 2 (some .int) 2 := ⟨wd_832, wd_833, wd_834, wd_835, by unfold gmh; decide +kernel⟩
theorem cv_Jx4a65c_123_0 : gwV RJx4a65c 123 0 yJx4a65c_elementData_915e3 cJx4a65c_elementData_915e3 2 (some (.object "java/lang/Object")) 1 := ⟨_, _, _, rfl, rfl, wd_836, wd_837, wd_838, wd_188, wd_839, by unfold gmh; decide +kernel⟩
theorem cv_Jx4a65c_129_0 : gwV RJx4a65c 129 0 yJx4a65c_grow_d5877 cJx4a65c_grow_d5877 1 (some (.array (.object "java/lang/Object"))) 0 := ⟨_, _, _, rfl, rfl, wd_840, wd_841, wd_842, wd_188, wd_843, by unfold gmh; decide +kernel⟩
theorem fp_Jx4a65c_48_0 : gFp RJx4a65c 48 0 2 .int false := ⟨_, _, _, "java/util/ArrayList", tyJx4a65c, rfl, by decide, inTJx4a65c, wd_827, Or.inl rfl, tyJx4a65c_ok, nmJx4a65c, rfl, by decide +kernel, fun h => rfl⟩
theorem fd_Jx4a65c_63_0 : gFd RJx4a65c 63 0 0 := ⟨_, _, _, "java/util/ArrayList", rfl, by decide, inTJx4a65c, wd_845, Or.inr wd_844⟩
theorem fp_Jx4a65c_63_0 : gFp RJx4a65c 63 0 0 .int false := ⟨_, _, _, "java/util/ArrayList", tyJx4a65c, rfl, by decide, inTJx4a65c, wd_845, Or.inr wd_844, tyJx4a65c_ok, nmJx4a65c, rfl, by decide +kernel, fun h => absurd h (by decide)⟩
theorem cv_Jx4a65c_131_0 : gwV RJx4a65c 131 0 yJx4a65c_add_72be8 cJx4a65c_add_72be8 4 none 3 := ⟨_, _, _, rfl, rfl, wd_846, wd_847, wd_848, wd_188, wd_849, by unfold gmh; decide +kernel⟩
theorem cs_J7_300 : gwS RJ7 300 yJ7_copyOf_6403c cJ7_copyOf_6403c 4 (some (.array (.object "java/lang/Object"))) 3 := ⟨wd_850, wd_851, wd_92, wd_852, by unfold gmh; decide +kernel⟩
theorem cs_J15_105 : gwS RJ15 105 yJ3_checkIndex_8e157 cJ3_checkIndex_8e157 3 (some .int) 3 := ⟨wd_858, wd_859, wd_860, wd_861, by unfold gmh; decide +kernel⟩
theorem cs_J8_201 : gwS RJ8 201 yJ8_hugeLength_7cf53 cJ8_hugeLength_7cf53 3 (some .int) 2 := ⟨wd_864, wd_865, wd_820, wd_866, by unfold gmh; decide +kernel⟩
theorem nw_L_7 : gNw RL 7 11 16 [vn, vn, vn, vn, vn, vn, vn, vn, vn, vn, vn, vi 0, vi 0, vi 0, vi 0, vi 0] := ⟨_, _, tyX11, rfl, inTX11, tyX11_ok, wd_867, wd_868, wd_359, by
  intro X j hj
  rcases (show j = 0 ∨ j = 1 ∨ j = 2 ∨ j = 3 ∨ j = 4 ∨ j = 5 ∨ j = 6 ∨ j = 7 ∨ j = 8 ∨ j = 9 ∨ j = 10 ∨ j = 11 ∨ j = 12 ∨ j = 13 ∨ j = 14 ∨ j = 15 by omega) with rfl | rfl | rfl | rfl | rfl | rfl | rfl | rfl | rfl | rfl | rfl | rfl | rfl | rfl | rfl | rfl <;> rfl⟩
theorem ci_L_9 : gwI RL 9 yX11_init cX11_init 2 0 := ⟨wd_869, wd_870, rfl, wd_359, wd_871, by unfold gmh; decide +kernel⟩
theorem nw_L_10 : gNw RL 10 12 24 [vi 0, vi 0, vn, vn, vn, vn, vn, vn, vn, vi 0, vn, vi 0, vi 0, vi 0, vi 0, vi 0, vi 0, vi 0, vi 0, vi 0, vn, vn, vn, vi 0] := ⟨_, _, tyX12, rfl, inTX12, tyX12_ok, wd_872, wd_873, wd_602, by
  intro X j hj
  rcases (show j = 0 ∨ j = 1 ∨ j = 2 ∨ j = 3 ∨ j = 4 ∨ j = 5 ∨ j = 6 ∨ j = 7 ∨ j = 8 ∨ j = 9 ∨ j = 10 ∨ j = 11 ∨ j = 12 ∨ j = 13 ∨ j = 14 ∨ j = 15 ∨ j = 16 ∨ j = 17 ∨ j = 18 ∨ j = 19 ∨ j = 20 ∨ j = 21 ∨ j = 22 ∨ j = 23 by omega) with rfl | rfl | rfl | rfl | rfl | rfl | rfl | rfl | rfl | rfl | rfl | rfl | rfl | rfl | rfl | rfl | rfl | rfl | rfl | rfl | rfl | rfl | rfl | rfl <;> rfl⟩
theorem ci_L_12 : gwI RL 12 yX12_init cX12_init 1 0 := ⟨wd_874, wd_875, rfl, wd_602, wd_876, by unfold gmh; decide +kernel⟩
theorem cv_L_13_11 : gwV RL 13 11 yX11_row cX11_row 4 (some .int) 3 := ⟨_, _, _, rfl, rfl, wd_877, wd_878, wd_879, wd_359, wd_880, by unfold gmh; decide +kernel⟩
theorem cv_L_17_12 : gwV RL 17 12 yX12_row cX12_row 5 (some .int) 3 := ⟨_, _, _, rfl, rfl, wd_881, wd_882, wd_883, wd_602, wd_884, by unfold gmh; decide +kernel⟩
theorem cv_L_18_11 : gwV RL 18 11 yX11_set cX11_set 5 (some .int) 3 := ⟨_, _, _, rfl, rfl, wd_885, wd_886, wd_887, wd_359, wd_888, by unfold gmh; decide +kernel⟩
theorem cv_L_21_12 : gwV RL 21 12 yX12_set cX12_set 4 (some .int) 3 := ⟨_, _, _, rfl, rfl, wd_889, wd_890, wd_891, wd_602, wd_892, by unfold gmh; decide +kernel⟩
theorem cv_L_22_11 : gwV RL 22 11 yX11_copy cX11_copy 8 (some .int) 5 := ⟨_, _, _, rfl, rfl, wd_893, wd_894, wd_895, wd_359, wd_896, by unfold gmh; decide +kernel⟩
theorem cv_L_26_12 : gwV RL 26 12 yX12_copy cX12_copy 9 (some .int) 5 := ⟨_, _, _, rfl, rfl, wd_897, wd_898, wd_899, wd_602, wd_900, by unfold gmh; decide +kernel⟩
theorem cv_L_27_11 : gwV RL 27 11 yX11_drop cX11_drop 4 (some .int) 1 := ⟨_, _, _, rfl, rfl, wd_901, wd_902, wd_903, wd_359, wd_904, by unfold gmh; decide +kernel⟩
theorem cv_L_31_12 : gwV RL 31 12 yX12_drop cX12_drop 2 (some .int) 1 := ⟨_, _, _, rfl, rfl, wd_905, wd_906, wd_907, wd_602, wd_908, by unfold gmh; decide +kernel⟩
theorem cv_L_32_11 : gwV RL 32 11 yX11_feed cX11_feed 2 (some .int) 1 := ⟨_, _, _, rfl, rfl, wd_909, wd_910, wd_911, wd_359, wd_912, by unfold gmh; decide +kernel⟩
theorem cv_L_35_12 : gwV RL 35 12 yX12_feed cX12_feed 2 (some .int) 1 := ⟨_, _, _, rfl, rfl, wd_913, wd_914, wd_915, wd_602, wd_916, by unfold gmh; decide +kernel⟩
theorem cv_L_36_11 : gwV RL 36 11 yX11_table cX11_table 3 (some .int) 0 := ⟨_, _, _, rfl, rfl, wd_917, wd_918, wd_919, wd_359, wd_920, by unfold gmh; decide +kernel⟩
theorem cv_L_40_12 : gwV RL 40 12 yX12_table cX12_table 4 (some .int) 0 := ⟨_, _, _, rfl, rfl, wd_921, wd_922, wd_923, wd_602, wd_924, by unfold gmh; decide +kernel⟩
theorem cv_L_41_11 : gwV RL 41 11 yX11_fault cX11_fault 1 (some .int) 0 := ⟨_, _, _, rfl, rfl, wd_925, wd_926, wd_927, wd_359, wd_928, by unfold gmh; decide +kernel⟩
theorem cv_L_44_12 : gwV RL 44 12 yX12_fault cX12_fault 1 (some .int) 0 := ⟨_, _, _, rfl, rfl, wd_929, wd_930, wd_931, wd_602, wd_932, by unfold gmh; decide +kernel⟩
theorem cv_L_45_11 : gwV RL 45 11 yX11_undo cX11_undo 1 (some .int) 0 := ⟨_, _, _, rfl, rfl, wd_933, wd_934, wd_935, wd_359, wd_936, by unfold gmh; decide +kernel⟩
theorem cv_L_48_12 : gwV RL 48 12 yX12_undo cX12_undo 2 (some .int) 0 := ⟨_, _, _, rfl, rfl, wd_937, wd_938, wd_939, wd_602, wd_940, by unfold gmh; decide +kernel⟩
theorem cv_L_49_11 : gwV RL 49 11 yX11_charge cX11_charge 3 (some .int) 2 := ⟨_, _, _, rfl, rfl, wd_941, wd_942, wd_943, wd_359, wd_944, by unfold gmh; decide +kernel⟩
theorem cv_L_53_12 : gwV RL 53 12 yX12_charge cX12_charge 4 (some .int) 2 := ⟨_, _, _, rfl, rfl, wd_945, wd_946, wd_947, wd_602, wd_948, by unfold gmh; decide +kernel⟩
theorem cv_L_54_11 : gwV RL 54 11 yX11_make cX11_make 3 (some .int) 1 := ⟨_, _, _, rfl, rfl, wd_949, wd_950, wd_951, wd_359, wd_952, by unfold gmh; decide +kernel⟩
theorem cv_L_57_12 : gwV RL 57 12 yX12_make cX12_make 2 (some .int) 1 := ⟨_, _, _, rfl, rfl, wd_953, wd_954, wd_955, wd_602, wd_956, by unfold gmh; decide +kernel⟩
theorem cv_L_58_11 : gwV RL 58 11 yX11_stand cX11_stand 2 (some .int) 1 := ⟨_, _, _, rfl, rfl, wd_957, wd_958, wd_959, wd_359, wd_960, by unfold gmh; decide +kernel⟩
theorem cv_L_61_12 : gwV RL 61 12 yX12_stand cX12_stand 2 (some .int) 1 := ⟨_, _, _, rfl, rfl, wd_961, wd_962, wd_963, wd_602, wd_964, by unfold gmh; decide +kernel⟩
theorem cv_L_62_11 : gwV RL 62 11 yX11_rest cX11_rest 1 (some .int) 0 := ⟨_, _, _, rfl, rfl, wd_965, wd_966, wd_967, wd_359, wd_968, by unfold gmh; decide +kernel⟩
theorem cv_L_65_12 : gwV RL 65 12 yX12_rest cX12_rest 1 (some .int) 0 := ⟨_, _, _, rfl, rfl, wd_969, wd_970, wd_971, wd_602, wd_972, by unfold gmh; decide +kernel⟩
theorem cv_L_66_11 : gwV RL 66 11 yX11_cell cX11_cell 3 (some .int) 2 := ⟨_, _, _, rfl, rfl, wd_973, wd_974, wd_975, wd_359, wd_976, by unfold gmh; decide +kernel⟩
theorem cv_L_69_12 : gwV RL 69 12 yX12_cell cX12_cell 5 (some .int) 2 := ⟨_, _, _, rfl, rfl, wd_977, wd_978, wd_979, wd_602, wd_980, by unfold gmh; decide +kernel⟩
theorem cv_L_70_11 : gwV RL 70 11 yX11_path cX11_path 4 (some .int) 2 := ⟨_, _, _, rfl, rfl, wd_981, wd_982, wd_983, wd_359, wd_984, by unfold gmh; decide +kernel⟩
theorem cv_L_73_12 : gwV RL 73 12 yX12_path cX12_path 3 (some .int) 2 := ⟨_, _, _, rfl, rfl, wd_985, wd_986, wd_987, wd_602, wd_988, by unfold gmh; decide +kernel⟩
theorem cv_L_74_11 : gwV RL 74 11 yX11_pad cX11_pad 2 (some .int) 1 := ⟨_, _, _, rfl, rfl, wd_989, wd_990, wd_991, wd_359, wd_992, by unfold gmh; decide +kernel⟩
theorem cv_L_77_12 : gwV RL 77 12 yX12_pad cX12_pad 2 (some .int) 1 := ⟨_, _, _, rfl, rfl, wd_993, wd_994, wd_995, wd_602, wd_996, by unfold gmh; decide +kernel⟩
theorem cv_L_78_11 : gwV RL 78 11 yX11_ahead cX11_ahead 4 (some .int) 3 := ⟨_, _, _, rfl, rfl, wd_997, wd_998, wd_999, wd_359, wd_1000, by unfold gmh; decide +kernel⟩
theorem cv_L_81_12 : gwV RL 81 12 yX12_ahead cX12_ahead 4 (some .int) 3 := ⟨_, _, _, rfl, rfl, wd_1001, wd_1002, wd_1003, wd_602, wd_1004, by unfold gmh; decide +kernel⟩
theorem cv_L_82_11 : gwV RL 82 11 yX11_uneven cX11_uneven 2 (some .int) 1 := ⟨_, _, _, rfl, rfl, wd_1005, wd_1006, wd_1007, wd_359, wd_1008, by unfold gmh; decide +kernel⟩
theorem cv_L_85_12 : gwV RL 85 12 yX12_uneven cX12_uneven 2 (some .int) 1 := ⟨_, _, _, rfl, rfl, wd_1009, wd_1010, wd_1011, wd_602, wd_1012, by unfold gmh; decide +kernel⟩
theorem cv_L_86_11 : gwV RL 86 11 yX11_order cX11_order 3 (some .int) 1 := ⟨_, _, _, rfl, rfl, wd_1013, wd_1014, wd_1015, wd_359, wd_1016, by unfold gmh; decide +kernel⟩
theorem cv_L_89_12 : gwV RL 89 12 yX12_order cX12_order 7 (some .int) 1 := ⟨_, _, _, rfl, rfl, wd_1017, wd_1018, wd_1019, wd_602, wd_1020, by unfold gmh; decide +kernel⟩
theorem cv_L_90_11 : gwV RL 90 11 yX11_enough cX11_enough 4 (some .int) 1 := ⟨_, _, _, rfl, rfl, wd_1021, wd_1022, wd_1023, wd_359, wd_1024, by unfold gmh; decide +kernel⟩
theorem cv_L_93_12 : gwV RL 93 12 yX12_enough cX12_enough 6 (some .int) 1 := ⟨_, _, _, rfl, rfl, wd_1025, wd_1026, wd_1027, wd_602, wd_1028, by unfold gmh; decide +kernel⟩
theorem cv_L_94_11 : gwV RL 94 11 yX11_wetFor cX11_wetFor 5 (some .int) 2 := ⟨_, _, _, rfl, rfl, wd_1029, wd_1030, wd_1031, wd_359, wd_1032, by unfold gmh; decide +kernel⟩
theorem cv_L_97_12 : gwV RL 97 12 yX12_wetFor cX12_wetFor 7 (some .int) 2 := ⟨_, _, _, rfl, rfl, wd_1033, wd_1034, wd_1035, wd_602, wd_1036, by unfold gmh; decide +kernel⟩
theorem cv_L_98_11 : gwV RL 98 11 yX11_over cX11_over 7 (some .int) 2 := ⟨_, _, _, rfl, rfl, wd_1037, wd_1038, wd_1039, wd_359, wd_1040, by unfold gmh; decide +kernel⟩
theorem cv_L_101_12 : gwV RL 101 12 yX12_over cX12_over 7 (some .int) 2 := ⟨_, _, _, rfl, rfl, wd_1041, wd_1042, wd_1043, wd_602, wd_1044, by unfold gmh; decide +kernel⟩
theorem cv_L_102_11 : gwV RL 102 11 yX11_goOn cX11_goOn 2 (some .int) 0 := ⟨_, _, _, rfl, rfl, wd_1045, wd_1046, wd_1047, wd_359, wd_1048, by unfold gmh; decide +kernel⟩
theorem cv_L_105_12 : gwV RL 105 12 yX12_goOn cX12_goOn 2 (some .int) 0 := ⟨_, _, _, rfl, rfl, wd_1049, wd_1050, wd_1051, wd_602, wd_1052, by unfold gmh; decide +kernel⟩
theorem cv_L_106_11 : gwV RL 106 11 yX11_done cX11_done 8 (some .int) 3 := ⟨_, _, _, rfl, rfl, wd_1053, wd_1054, wd_1055, wd_359, wd_1056, by unfold gmh; decide +kernel⟩
theorem cv_L_109_12 : gwV RL 109 12 yX12_done cX12_done 9 (some .int) 3 := ⟨_, _, _, rfl, rfl, wd_1057, wd_1058, wd_1059, wd_602, wd_1060, by unfold gmh; decide +kernel⟩
theorem cv_L_110_11 : gwV RL 110 11 yX11_cups cX11_cups 3 (some .int) 2 := ⟨_, _, _, rfl, rfl, wd_1061, wd_1062, wd_1063, wd_359, wd_1064, by unfold gmh; decide +kernel⟩
theorem cv_L_113_12 : gwV RL 113 12 yX12_cups cX12_cups 5 (some .int) 2 := ⟨_, _, _, rfl, rfl, wd_1065, wd_1066, wd_1067, wd_602, wd_1068, by unfold gmh; decide +kernel⟩
theorem cv_L_114_11 : gwV RL 114 11 yX11_thin cX11_thin 1 (some .int) 0 := ⟨_, _, _, rfl, rfl, wd_1069, wd_1070, wd_1071, wd_359, wd_1072, by unfold gmh; decide +kernel⟩
theorem cv_L_117_12 : gwV RL 117 12 yX12_thin cX12_thin 5 (some .int) 0 := ⟨_, _, _, rfl, rfl, wd_1073, wd_1074, wd_1075, wd_602, wd_1076, by unfold gmh; decide +kernel⟩
theorem cv_L_118_11 : gwV RL 118 11 yX11_dust cX11_dust 13 (some .long) 4 := ⟨_, _, _, rfl, rfl, wd_1077, wd_1078, wd_1079, wd_359, wd_1080, by unfold gmh; decide +kernel⟩
theorem cv_L_122_12 : gwV RL 122 12 yX12_dust cX12_dust 17 (some .long) 4 := ⟨_, _, _, rfl, rfl, wd_1081, wd_1082, wd_1083, wd_602, wd_1084, by unfold gmh; decide +kernel⟩
theorem cv_L_123_11 : gwV RL 123 11 yX11_evenings cX11_evenings 8 (some .int) 3 := ⟨_, _, _, rfl, rfl, wd_1085, wd_1086, wd_1087, wd_359, wd_1088, by unfold gmh; decide +kernel⟩
theorem cv_L_126_12 : gwV RL 126 12 yX12_evenings cX12_evenings 7 (some .int) 3 := ⟨_, _, _, rfl, rfl, wd_1089, wd_1090, wd_1091, wd_602, wd_1092, by unfold gmh; decide +kernel⟩
theorem cv_L_127_11 : gwV RL 127 11 yX11_image cX11_image 2 (some .int) 1 := ⟨_, _, _, rfl, rfl, wd_1093, wd_1094, wd_1095, wd_359, wd_1096, by unfold gmh; decide +kernel⟩
theorem cv_L_130_12 : gwV RL 130 12 yX12_image cX12_image 3 (some .int) 1 := ⟨_, _, _, rfl, rfl, wd_1097, wd_1098, wd_1099, wd_602, wd_1100, by unfold gmh; decide +kernel⟩
theorem cv_L_131_11 : gwV RL 131 11 yX11_restore cX11_restore 2 (some .int) 1 := ⟨_, _, _, rfl, rfl, wd_1101, wd_1102, wd_1103, wd_359, wd_1104, by unfold gmh; decide +kernel⟩
theorem cv_L_134_12 : gwV RL 134 12 yX12_restore cX12_restore 3 (some .int) 1 := ⟨_, _, _, rfl, rfl, wd_1105, wd_1106, wd_1107, wd_602, wd_1108, by unfold gmh; decide +kernel⟩
theorem cv_L_135_11 : gwV RL 135 11 yX11_kind cX11_kind 3 (some .int) 1 := ⟨_, _, _, rfl, rfl, wd_1109, wd_1110, wd_1111, wd_359, wd_1112, by unfold gmh; decide +kernel⟩
theorem cv_L_138_12 : gwV RL 138 12 yX12_kind cX12_kind 2 (some .int) 1 := ⟨_, _, _, rfl, rfl, wd_1113, wd_1114, wd_1115, wd_602, wd_1116, by unfold gmh; decide +kernel⟩
theorem cv_L_139_11 : gwV RL 139 11 yX11_as cX11_as 4 (some .int) 2 := ⟨_, _, _, rfl, rfl, wd_1117, wd_1118, wd_1119, wd_359, wd_1120, by unfold gmh; decide +kernel⟩
theorem cv_L_142_12 : gwV RL 142 12 yX12_as cX12_as 3 (some .int) 2 := ⟨_, _, _, rfl, rfl, wd_1121, wd_1122, wd_1123, wd_602, wd_1124, by unfold gmh; decide +kernel⟩
theorem cv_L_143_11 : gwV RL 143 11 yX11_ask cX11_ask 5 (some .int) 2 := ⟨_, _, _, rfl, rfl, wd_1125, wd_1126, wd_1127, wd_359, wd_1128, by unfold gmh; decide +kernel⟩
theorem cv_L_146_12 : gwV RL 146 12 yX12_ask cX12_ask 3 (some .int) 2 := ⟨_, _, _, rfl, rfl, wd_1129, wd_1130, wd_1131, wd_602, wd_1132, by unfold gmh; decide +kernel⟩
theorem cv_L_147_11 : gwV RL 147 11 yX11_trace cX11_trace 2 (some .int) 1 := ⟨_, _, _, rfl, rfl, wd_1133, wd_1134, wd_1135, wd_359, wd_1136, by unfold gmh; decide +kernel⟩
theorem cv_L_150_12 : gwV RL 150 12 yX12_trace cX12_trace 2 (some .int) 1 := ⟨_, _, _, rfl, rfl, wd_1137, wd_1138, wd_1139, wd_602, wd_1140, by unfold gmh; decide +kernel⟩
theorem cv_L_151_11 : gwV RL 151 11 yX11_count cX11_count 2 (some .int) 1 := ⟨_, _, _, rfl, rfl, wd_1141, wd_1142, wd_1143, wd_359, wd_1144, by unfold gmh; decide +kernel⟩
theorem cv_L_154_12 : gwV RL 154 12 yX12_count cX12_count 4 (some .int) 1 := ⟨_, _, _, rfl, rfl, wd_1145, wd_1146, wd_1147, wd_602, wd_1148, by unfold gmh; decide +kernel⟩
theorem cv_L_155_11 : gwV RL 155 11 yX11_status cX11_status 1 (some .int) 0 := ⟨_, _, _, rfl, rfl, wd_1149, wd_1150, wd_1151, wd_359, wd_1152, by unfold gmh; decide +kernel⟩
theorem cv_L_158_12 : gwV RL 158 12 yX12_status cX12_status 1 (some .int) 0 := ⟨_, _, _, rfl, rfl, wd_1153, wd_1154, wd_1155, wd_602, wd_1156, by unfold gmh; decide +kernel⟩
