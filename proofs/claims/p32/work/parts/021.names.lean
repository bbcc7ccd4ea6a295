theorem in_by {big : List Cond} (ws : List Cond) (ps : List Nat) (hp : ws = ps.filterMap (fun i => big[i]?)) : ∀ w ∈ ws, w ∈ big := by
  intro w hw
  rw [hp] at hw
  obtain ⟨i, -, hi⟩ := List.mem_filterMap.mp hw
  first | exact List.mem_of_getElem? hi | exact List.getElem?_mem hi
theorem tI_1 : ∀ w ∈ tables_1_1, w ∈ lw_tbl := fun w h => List.mem_append_right _ (List.mem_append_left _ h)
theorem tI_2 : ∀ w ∈ tables_1_2, w ∈ lw_tbl := fun w h => List.mem_append_right _ (List.mem_append_right _ (List.mem_append_left _ h))
theorem tI_3 : ∀ w ∈ tables_1_3, w ∈ lw_tbl := fun w h => List.mem_append_right _ (List.mem_append_right _ (List.mem_append_right _ (List.mem_append_left _ h)))
theorem tI_4 : ∀ w ∈ tables_1_4, w ∈ lw_tbl := fun w h => List.mem_append_right _ (List.mem_append_right _ (List.mem_append_right _ (List.mem_append_right _ (List.mem_append_left _ h))))
theorem tI_5 : ∀ w ∈ tables_1_5, w ∈ lw_tbl := fun w h => List.mem_append_right _ (List.mem_append_right _ (List.mem_append_right _ (List.mem_append_right _ (List.mem_append_right _ (h)))))
theorem tI_0 : ∀ w ∈ k2_sels lw_privs, w ∈ lw_tbl := fun w h => List.mem_append_left _ h
theorem tw_45 : (Cond.classLink RL 7 RX10 : Cond) ∈ lw_tbl := tI_1 _ (List.mem_of_getElem? (i := 16) rfl)
theorem tw_46 : (Cond.instantiable RX10 13 : Cond) ∈ lw_tbl := tI_1 _ (List.mem_of_getElem? (i := 17) rfl)
theorem tw_30 : (Cond.initialized RX10 : Cond) ∈ lw_tbl := tI_1 _ (List.mem_of_getElem? (i := 1) rfl)
theorem tw_659 : (Cond.classLink RL 10 RX11 : Cond) ∈ lw_tbl := tI_3 _ (List.mem_of_getElem? (i := 150) rfl)
theorem tw_660 : (Cond.instantiable RX11 39 : Cond) ∈ lw_tbl := tI_3 _ (List.mem_of_getElem? (i := 151) rfl)
theorem tw_35 : (Cond.initialized RX11 : Cond) ∈ lw_tbl := tI_1 _ (List.mem_of_getElem? (i := 6) rfl)
theorem tw_47 : (Cond.methodLink RL 9 yX10_init : Cond) ∈ lw_tbl := tI_1 _ (List.mem_of_getElem? (i := 18) rfl)
theorem tw_48 : (Cond.instanceMethod yX10_init : Cond) ∈ lw_tbl := tI_1 _ (List.mem_of_getElem? (i := 19) rfl)
theorem tw_49 : (Cond.code yX10_init cX10_init 1 none : Cond) ∈ lw_tbl := tI_1 _ (List.mem_of_getElem? (i := 20) rfl)
theorem tw_50 : (Cond.methodLink RX10 3 objectInit : Cond) ∈ lw_tbl := tI_1 _ (List.mem_of_getElem? (i := 21) rfl)
theorem tw_51 : (Cond.instanceMethod objectInit : Cond) ∈ lw_tbl := tI_1 _ (List.mem_of_getElem? (i := 22) rfl)
theorem tw_52 : (Cond.code objectInit ⟨#[0xb1]⟩ 1 none : Cond) ∈ lw_tbl := tI_1 _ (List.mem_of_getElem? (i := 23) rfl)
theorem tw_53 : (Cond.classLink RX10 9 RX3 : Cond) ∈ lw_tbl := tI_1 _ (List.mem_of_getElem? (i := 24) rfl)
theorem tw_54 : (Cond.instantiable RX3 5 : Cond) ∈ lw_tbl := tI_1 _ (List.mem_of_getElem? (i := 25) rfl)
theorem tw_31 : (Cond.initialized RX3 : Cond) ∈ lw_tbl := tI_1 _ (List.mem_of_getElem? (i := 2) rfl)
theorem tw_121 : (Cond.fieldLink RX10 12 "TributePitches" "lode" "LTributePitches$Lode;" : Cond) ∈ lw_tbl := tI_1 _ (List.mem_of_getElem? (i := 92) rfl)
theorem tw_83 : (Cond.classLink RX10 18 RX6 : Cond) ∈ lw_tbl := tI_1 _ (List.mem_of_getElem? (i := 54) rfl)
theorem tw_122 : (Cond.fieldLink RX10 20 "TributePitches" "pitches" "[LTributePitches$Pitch;" : Cond) ∈ lw_tbl := tI_1 _ (List.mem_of_getElem? (i := 93) rfl)
theorem tw_85 : (Cond.classLink RX10 24 RX2 : Cond) ∈ lw_tbl := tI_1 _ (List.mem_of_getElem? (i := 56) rfl)
theorem tw_123 : (Cond.fieldLink RX10 26 "TributePitches" "gangs" "[LTributePitches$Gang;" : Cond) ∈ lw_tbl := tI_1 _ (List.mem_of_getElem? (i := 94) rfl)
theorem tw_87 : (Cond.classLink RX10 30 RX8 : Cond) ∈ lw_tbl := tI_1 _ (List.mem_of_getElem? (i := 58) rfl)
theorem tw_124 : (Cond.fieldLink RX10 32 "TributePitches" "takes" "[LTributePitches$Take;" : Cond) ∈ lw_tbl := tI_1 _ (List.mem_of_getElem? (i := 95) rfl)
theorem tw_89 : (Cond.classLink RX10 36 RX5 : Cond) ∈ lw_tbl := tI_1 _ (List.mem_of_getElem? (i := 60) rfl)
theorem tw_125 : (Cond.fieldLink RX10 38 "TributePitches" "parcels" "[LTributePitches$Parcel;" : Cond) ∈ lw_tbl := tI_1 _ (List.mem_of_getElem? (i := 96) rfl)
theorem wsL_law_r1_in : ∀ w ∈ wsL_law_r1, w ∈ lw_tbl := (List.forall_mem_cons.mpr ⟨tw_45, (List.forall_mem_cons.mpr ⟨tw_46, (List.forall_mem_cons.mpr ⟨tw_30, (List.forall_mem_cons.mpr ⟨tw_659, (List.forall_mem_cons.mpr ⟨tw_660, (List.forall_mem_cons.mpr ⟨tw_35, (List.forall_mem_cons.mpr ⟨tw_47, (List.forall_mem_cons.mpr ⟨tw_48, (List.forall_mem_cons.mpr ⟨tw_49, (List.forall_mem_cons.mpr ⟨tw_50, (List.forall_mem_cons.mpr ⟨tw_51, (List.forall_mem_cons.mpr ⟨tw_52, (List.forall_mem_cons.mpr ⟨tw_53, (List.forall_mem_cons.mpr ⟨tw_54, (List.forall_mem_cons.mpr ⟨tw_31, (List.forall_mem_cons.mpr ⟨tw_121, (List.forall_mem_cons.mpr ⟨tw_83, (List.forall_mem_cons.mpr ⟨tw_122, (List.forall_mem_cons.mpr ⟨tw_85, (List.forall_mem_cons.mpr ⟨tw_123, (List.forall_mem_cons.mpr ⟨tw_87, (List.forall_mem_cons.mpr ⟨tw_124, (List.forall_mem_cons.mpr ⟨tw_89, (List.forall_mem_cons.mpr ⟨tw_125, (fun _ h => absurd h List.not_mem_nil)⟩)⟩)⟩)⟩)⟩)⟩)⟩)⟩)⟩)⟩)⟩)⟩)⟩)⟩)⟩)⟩)⟩)⟩)⟩)⟩)⟩)⟩)⟩)⟩)
theorem tw_91 : (Cond.classLink RX10 42 RX7 : Cond) ∈ lw_tbl := tI_1 _ (List.mem_of_getElem? (i := 62) rfl)
theorem tw_93 : (Cond.instantiable RX7 3 : Cond) ∈ lw_tbl := tI_1 _ (List.mem_of_getElem? (i := 64) rfl)
theorem tw_33 : (Cond.initialized RX7 : Cond) ∈ lw_tbl := tI_1 _ (List.mem_of_getElem? (i := 4) rfl)
theorem tw_126 : (Cond.fieldLink RX10 45 "TributePitches" "sheets" "[LTributePitches$Sheet;" : Cond) ∈ lw_tbl := tI_1 _ (List.mem_of_getElem? (i := 97) rfl)
theorem tw_110 : (Cond.classLink RX10 49 RX9 : Cond) ∈ lw_tbl := tI_1 _ (List.mem_of_getElem? (i := 81) rfl)
theorem tw_111 : (Cond.instantiable RX9 1 : Cond) ∈ lw_tbl := tI_1 _ (List.mem_of_getElem? (i := 82) rfl)
theorem tw_34 : (Cond.initialized RX9 : Cond) ∈ lw_tbl := tI_1 _ (List.mem_of_getElem? (i := 5) rfl)
theorem tw_127 : (Cond.fieldLink RX10 52 "TributePitches" "steps" "LTributePitches$Trace;" : Cond) ∈ lw_tbl := tI_1 _ (List.mem_of_getElem? (i := 98) rfl)
theorem tw_133 : (Cond.fieldLink RX10 56 "TributePitches" "latestFault" "I" : Cond) ∈ lw_tbl := tI_1 _ (List.mem_of_getElem? (i := 104) rfl)
theorem tw_55 : (Cond.methodLink RX10 11 yX3_init : Cond) ∈ lw_tbl := tI_1 _ (List.mem_of_getElem? (i := 26) rfl)
theorem tw_56 : (Cond.instanceMethod yX3_init : Cond) ∈ lw_tbl := tI_1 _ (List.mem_of_getElem? (i := 27) rfl)
theorem tw_57 : (Cond.code yX3_init cX3_init 1 none : Cond) ∈ lw_tbl := tI_1 _ (List.mem_of_getElem? (i := 28) rfl)
theorem tw_58 : (Cond.methodLink RX3 5 objectInit : Cond) ∈ lw_tbl := tI_1 _ (List.mem_of_getElem? (i := 29) rfl)
theorem tw_82 : (Cond.arrayClass .int : Cond) ∈ lw_tbl := tI_1 _ (List.mem_of_getElem? (i := 53) rfl)
theorem tw_62 : (Cond.fieldLink RX3 11 "TributePitches$Lode" "lows" "[I" : Cond) ∈ lw_tbl := tI_1 _ (List.mem_of_getElem? (i := 33) rfl)
theorem tw_64 : (Cond.fieldLink RX3 15 "TributePitches$Lode" "highs" "[I" : Cond) ∈ lw_tbl := tI_1 _ (List.mem_of_getElem? (i := 35) rfl)
theorem tw_67 : (Cond.fieldLink RX3 18 "TributePitches$Lode" "triedLows" "[I" : Cond) ∈ lw_tbl := tI_1 _ (List.mem_of_getElem? (i := 38) rfl)
theorem tw_68 : (Cond.fieldLink RX3 21 "TributePitches$Lode" "triedHighs" "[I" : Cond) ∈ lw_tbl := tI_1 _ (List.mem_of_getElem? (i := 39) rfl)
theorem tw_69 : (Cond.fieldLink RX3 24 "TributePitches$Lode" "law" "I" : Cond) ∈ lw_tbl := tI_1 _ (List.mem_of_getElem? (i := 40) rfl)
theorem tw_59 : (Cond.methodLink RX3 28 yJ7_fill_53178 : Cond) ∈ lw_tbl := tI_1 _ (List.mem_of_getElem? (i := 30) rfl)
theorem tw_60 : (Cond.static yJ7_fill_53178 : Cond) ∈ lw_tbl := tI_1 _ (List.mem_of_getElem? (i := 31) rfl)
theorem tw_32 : (Cond.initialized RJ7 : Cond) ∈ lw_tbl := tI_1 _ (List.mem_of_getElem? (i := 3) rfl)
theorem tw_61 : (Cond.code yJ7_fill_53178 cJ7_fill_53178 4 none : Cond) ∈ lw_tbl := tI_1 _ (List.mem_of_getElem? (i := 32) rfl)
theorem tw_95 : (Cond.instanceMethod yX7_init : Cond) ∈ lw_tbl := tI_1 _ (List.mem_of_getElem? (i := 66) rfl)
theorem wsL_law_r2_in : ∀ w ∈ wsL_law_r2, w ∈ lw_tbl := (List.forall_mem_cons.mpr ⟨tw_91, (List.forall_mem_cons.mpr ⟨tw_93, (List.forall_mem_cons.mpr ⟨tw_33, (List.forall_mem_cons.mpr ⟨tw_126, (List.forall_mem_cons.mpr ⟨tw_110, (List.forall_mem_cons.mpr ⟨tw_111, (List.forall_mem_cons.mpr ⟨tw_34, (List.forall_mem_cons.mpr ⟨tw_127, (List.forall_mem_cons.mpr ⟨tw_133, (List.forall_mem_cons.mpr ⟨tw_55, (List.forall_mem_cons.mpr ⟨tw_56, (List.forall_mem_cons.mpr ⟨tw_57, (List.forall_mem_cons.mpr ⟨tw_58, (List.forall_mem_cons.mpr ⟨tw_82, (List.forall_mem_cons.mpr ⟨tw_62, (List.forall_mem_cons.mpr ⟨tw_64, (List.forall_mem_cons.mpr ⟨tw_67, (List.forall_mem_cons.mpr ⟨tw_68, (List.forall_mem_cons.mpr ⟨tw_69, (List.forall_mem_cons.mpr ⟨tw_59, (List.forall_mem_cons.mpr ⟨tw_60, (List.forall_mem_cons.mpr ⟨tw_32, (List.forall_mem_cons.mpr ⟨tw_61, (List.forall_mem_cons.mpr ⟨tw_95, (fun _ h => absurd h List.not_mem_nil)⟩)⟩)⟩)⟩)⟩)⟩)⟩)⟩)⟩)⟩)⟩)⟩)⟩)⟩)⟩)⟩)⟩)⟩)⟩)⟩)⟩)⟩)⟩)⟩)
theorem tw_96 : (Cond.code yX7_init cX7_init 1 none : Cond) ∈ lw_tbl := tI_1 _ (List.mem_of_getElem? (i := 67) rfl)
theorem tw_97 : (Cond.methodLink RX7 3 objectInit : Cond) ∈ lw_tbl := tI_1 _ (List.mem_of_getElem? (i := 68) rfl)
theorem tw_98 : (Cond.fieldLink RX7 11 "TributePitches$Sheet" "cells" "[I" : Cond) ∈ lw_tbl := tI_1 _ (List.mem_of_getElem? (i := 69) rfl)
theorem tw_100 : (Cond.fieldLink RX7 15 "TributePitches$Sheet" "lane" "I" : Cond) ∈ lw_tbl := tI_1 _ (List.mem_of_getElem? (i := 71) rfl)
theorem tw_113 : (Cond.instanceMethod yX9_init : Cond) ∈ lw_tbl := tI_1 _ (List.mem_of_getElem? (i := 84) rfl)
theorem tw_114 : (Cond.code yX9_init cX9_init 1 none : Cond) ∈ lw_tbl := tI_1 _ (List.mem_of_getElem? (i := 85) rfl)
theorem tw_115 : (Cond.methodLink RX9 1 objectInit : Cond) ∈ lw_tbl := tI_1 _ (List.mem_of_getElem? (i := 86) rfl)
theorem tw_661 : (Cond.methodLink RL 12 yX11_init : Cond) ∈ lw_tbl := tI_3 _ (List.mem_of_getElem? (i := 152) rfl)
theorem tw_662 : (Cond.instanceMethod yX11_init : Cond) ∈ lw_tbl := tI_3 _ (List.mem_of_getElem? (i := 153) rfl)
theorem tw_663 : (Cond.code yX11_init cX11_init 2 none : Cond) ∈ lw_tbl := tI_3 _ (List.mem_of_getElem? (i := 154) rfl)
theorem tw_664 : (Cond.methodLink RX11 1 objectInit : Cond) ∈ lw_tbl := tI_3 _ (List.mem_of_getElem? (i := 155) rfl)
theorem tw_667 : (Cond.fieldLink RX11 7 "TributePitchesModel" "low" "[I" : Cond) ∈ lw_tbl := tI_3 _ (List.mem_of_getElem? (i := 158) rfl)
theorem tw_668 : (Cond.fieldLink RX11 13 "TributePitchesModel" "high" "[I" : Cond) ∈ lw_tbl := tI_3 _ (List.mem_of_getElem? (i := 159) rfl)
theorem tw_669 : (Cond.fieldLink RX11 16 "TributePitchesModel" "newLow" "[I" : Cond) ∈ lw_tbl := tI_3 _ (List.mem_of_getElem? (i := 160) rfl)
theorem tw_670 : (Cond.fieldLink RX11 19 "TributePitchesModel" "newHigh" "[I" : Cond) ∈ lw_tbl := tI_3 _ (List.mem_of_getElem? (i := 161) rfl)
theorem tw_672 : (Cond.fieldLink RX11 22 "TributePitchesModel" "sheetSize" "[I" : Cond) ∈ lw_tbl := tI_3 _ (List.mem_of_getElem? (i := 163) rfl)
theorem tw_673 : (Cond.fieldLink RX11 25 "TributePitchesModel" "sheetLane" "[I" : Cond) ∈ lw_tbl := tI_3 _ (List.mem_of_getElem? (i := 164) rfl)
theorem tw_674 : (Cond.fieldLink RX11 28 "TributePitchesModel" "sheet" "[I" : Cond) ∈ lw_tbl := tI_3 _ (List.mem_of_getElem? (i := 165) rfl)
theorem tw_675 : (Cond.fieldLink RX11 31 "TributePitchesModel" "hands" "[I" : Cond) ∈ lw_tbl := tI_3 _ (List.mem_of_getElem? (i := 166) rfl)
theorem tw_677 : (Cond.fieldLink RX11 34 "TributePitchesModel" "fromX" "[I" : Cond) ∈ lw_tbl := tI_3 _ (List.mem_of_getElem? (i := 168) rfl)
theorem tw_678 : (Cond.fieldLink RX11 37 "TributePitchesModel" "fromY" "[I" : Cond) ∈ lw_tbl := tI_3 _ (List.mem_of_getElem? (i := 169) rfl)
theorem tw_679 : (Cond.fieldLink RX11 40 "TributePitchesModel" "toX" "[I" : Cond) ∈ lw_tbl := tI_3 _ (List.mem_of_getElem? (i := 170) rfl)
theorem tw_680 : (Cond.fieldLink RX11 43 "TributePitchesModel" "toY" "[I" : Cond) ∈ lw_tbl := tI_3 _ (List.mem_of_getElem? (i := 171) rfl)
theorem tw_681 : (Cond.fieldLink RX11 46 "TributePitchesModel" "tonsOf" "[I" : Cond) ∈ lw_tbl := tI_3 _ (List.mem_of_getElem? (i := 172) rfl)
theorem wsL_law_r3_in : ∀ w ∈ wsL_law_r3, w ∈ lw_tbl := (List.forall_mem_cons.mpr ⟨tw_96, (List.forall_mem_cons.mpr ⟨tw_97, (List.forall_mem_cons.mpr ⟨tw_98, (List.forall_mem_cons.mpr ⟨tw_100, (List.forall_mem_cons.mpr ⟨tw_113, (List.forall_mem_cons.mpr ⟨tw_114, (List.forall_mem_cons.mpr ⟨tw_115, (List.forall_mem_cons.mpr ⟨tw_661, (List.forall_mem_cons.mpr ⟨tw_662, (List.forall_mem_cons.mpr ⟨tw_663, (List.forall_mem_cons.mpr ⟨tw_664, (List.forall_mem_cons.mpr ⟨tw_667, (List.forall_mem_cons.mpr ⟨tw_668, (List.forall_mem_cons.mpr ⟨tw_669, (List.forall_mem_cons.mpr ⟨tw_670, (List.forall_mem_cons.mpr ⟨tw_672, (List.forall_mem_cons.mpr ⟨tw_673, (List.forall_mem_cons.mpr ⟨tw_674, (List.forall_mem_cons.mpr ⟨tw_675, (List.forall_mem_cons.mpr ⟨tw_677, (List.forall_mem_cons.mpr ⟨tw_678, (List.forall_mem_cons.mpr ⟨tw_679, (List.forall_mem_cons.mpr ⟨tw_680, (List.forall_mem_cons.mpr ⟨tw_681, (fun _ h => absurd h List.not_mem_nil)⟩)⟩)⟩)⟩)⟩)⟩)⟩)⟩)⟩)⟩)⟩)⟩)⟩)⟩)⟩)⟩)⟩)⟩)⟩)⟩)⟩)⟩)⟩)⟩)
theorem tw_683 : (Cond.fieldLink RX11 49 "TributePitchesModel" "sort" "[I" : Cond) ∈ lw_tbl := tI_3 _ (List.mem_of_getElem? (i := 174) rfl)
theorem tw_783 : (Cond.arrayClass .long : Cond) ∈ lw_tbl := tI_4 _ (List.mem_of_getElem? (i := 34) rfl)
theorem tw_684 : (Cond.fieldLink RX11 52 "TributePitchesModel" "debt" "[J" : Cond) ∈ lw_tbl := tI_3 _ (List.mem_of_getElem? (i := 175) rfl)
theorem tw_690 : (Cond.fieldLink RX11 56 "TributePitchesModel" "gangOf" "[I" : Cond) ∈ lw_tbl := tI_3 _ (List.mem_of_getElem? (i := 181) rfl)
theorem tw_691 : (Cond.fieldLink RX11 59 "TributePitchesModel" "pitchOf" "[I" : Cond) ∈ lw_tbl := tI_3 _ (List.mem_of_getElem? (i := 182) rfl)
theorem tw_692 : (Cond.fieldLink RX11 62 "TributePitchesModel" "shareOf" "[I" : Cond) ∈ lw_tbl := tI_3 _ (List.mem_of_getElem? (i := 183) rfl)
theorem tw_784 : (Cond.arrayClass .boolean : Cond) ∈ lw_tbl := tI_4 _ (List.mem_of_getElem? (i := 35) rfl)
theorem tw_693 : (Cond.fieldLink RX11 65 "TributePitchesModel" "isSettled" "[Z" : Cond) ∈ lw_tbl := tI_3 _ (List.mem_of_getElem? (i := 184) rfl)
theorem tw_694 : (Cond.fieldLink RX11 69 "TributePitchesModel" "least" "[J" : Cond) ∈ lw_tbl := tI_3 _ (List.mem_of_getElem? (i := 185) rfl)
theorem tw_695 : (Cond.fieldLink RX11 72 "TributePitchesModel" "greatest" "[J" : Cond) ∈ lw_tbl := tI_3 _ (List.mem_of_getElem? (i := 186) rfl)
theorem tw_696 : (Cond.fieldLink RX11 75 "TributePitchesModel" "costs" "[J" : Cond) ∈ lw_tbl := tI_3 _ (List.mem_of_getElem? (i := 187) rfl)
theorem tw_697 : (Cond.fieldLink RX11 78 "TributePitchesModel" "ahead" "[J" : Cond) ∈ lw_tbl := tI_3 _ (List.mem_of_getElem? (i := 188) rfl)
theorem tw_698 : (Cond.fieldLink RX11 81 "TributePitchesModel" "pay" "[J" : Cond) ∈ lw_tbl := tI_3 _ (List.mem_of_getElem? (i := 189) rfl)
theorem tw_700 : (Cond.fieldLink RX11 84 "TributePitchesModel" "parcelTake" "[I" : Cond) ∈ lw_tbl := tI_3 _ (List.mem_of_getElem? (i := 191) rfl)
theorem tw_701 : (Cond.fieldLink RX11 87 "TributePitchesModel" "parcelTons" "[I" : Cond) ∈ lw_tbl := tI_3 _ (List.mem_of_getElem? (i := 192) rfl)
theorem tw_702 : (Cond.fieldLink RX11 90 "TributePitchesModel" "parcelGood" "[I" : Cond) ∈ lw_tbl := tI_3 _ (List.mem_of_getElem? (i := 193) rfl)
theorem tw_666 : (Cond.fieldLink RX11 93 "TributePitchesModel" "far" "I" : Cond) ∈ lw_tbl := tI_3 _ (List.mem_of_getElem? (i := 157) rfl)
theorem tw_685 : (Cond.fieldLink RX11 97 "TributePitchesModel" "sold" "I" : Cond) ∈ lw_tbl := tI_3 _ (List.mem_of_getElem? (i := 176) rfl)
theorem tw_161 : (Cond.methodLink RL 13 yX10_find : Cond) ∈ lw_tbl := tI_1 _ (List.mem_of_getElem? (i := 132) rfl)
theorem tw_162 : (Cond.instanceMethod yX10_find : Cond) ∈ lw_tbl := tI_1 _ (List.mem_of_getElem? (i := 133) rfl)
theorem tw_163 : (Cond.selects RX10 yX10_find yX10_find : Cond) ∈ lw_tbl := tI_1 _ (List.mem_of_getElem? (i := 134) rfl)
theorem tw_164 : (Cond.code yX10_find cX10_find 5 (some .int) : Cond) ∈ lw_tbl := tI_1 _ (List.mem_of_getElem? (i := 135) rfl)
theorem tw_70 : (Cond.fieldLink RX10 79 "TributePitches$Lode" "law" "I" : Cond) ∈ lw_tbl := tI_1 _ (List.mem_of_getElem? (i := 41) rfl)
theorem tw_165 : (Cond.methodLink RX10 60 yX3_hasSquare : Cond) ∈ lw_tbl := tI_1 _ (List.mem_of_getElem? (i := 136) rfl)
theorem wsL_law_r4_in : ∀ w ∈ wsL_law_r4, w ∈ lw_tbl := (List.forall_mem_cons.mpr ⟨tw_683, (List.forall_mem_cons.mpr ⟨tw_783, (List.forall_mem_cons.mpr ⟨tw_684, (List.forall_mem_cons.mpr ⟨tw_690, (List.forall_mem_cons.mpr ⟨tw_691, (List.forall_mem_cons.mpr ⟨tw_692, (List.forall_mem_cons.mpr ⟨tw_784, (List.forall_mem_cons.mpr ⟨tw_693, (List.forall_mem_cons.mpr ⟨tw_694, (List.forall_mem_cons.mpr ⟨tw_695, (List.forall_mem_cons.mpr ⟨tw_696, (List.forall_mem_cons.mpr ⟨tw_697, (List.forall_mem_cons.mpr ⟨tw_698, (List.forall_mem_cons.mpr ⟨tw_700, (List.forall_mem_cons.mpr ⟨tw_701, (List.forall_mem_cons.mpr ⟨tw_702, (List.forall_mem_cons.mpr ⟨tw_666, (List.forall_mem_cons.mpr ⟨tw_685, (List.forall_mem_cons.mpr ⟨tw_161, (List.forall_mem_cons.mpr ⟨tw_162, (List.forall_mem_cons.mpr ⟨tw_163, (List.forall_mem_cons.mpr ⟨tw_164, (List.forall_mem_cons.mpr ⟨tw_70, (List.forall_mem_cons.mpr ⟨tw_165, (fun _ h => absurd h List.not_mem_nil)⟩)⟩)⟩)⟩)⟩)⟩)⟩)⟩)⟩)⟩)⟩)⟩)⟩)⟩)⟩)⟩)⟩)⟩)⟩)⟩)⟩)⟩)⟩)⟩)
theorem tw_166 : (Cond.static yX3_hasSquare : Cond) ∈ lw_tbl := tI_1 _ (List.mem_of_getElem? (i := 137) rfl)
theorem tw_167 : (Cond.code yX3_hasSquare cX3_hasSquare 2 (some .boolean) : Cond) ∈ lw_tbl := tI_1 _ (List.mem_of_getElem? (i := 138) rfl)
theorem tw_169 : (Cond.static yX10_isWithin : Cond) ∈ lw_tbl := tI_1 _ (List.mem_of_getElem? (i := 140) rfl)
theorem tw_170 : (Cond.code yX10_isWithin cX10_isWithin 3 (some .boolean) : Cond) ∈ lw_tbl := tI_1 _ (List.mem_of_getElem? (i := 141) rfl)
theorem tw_171 : (Cond.methodLink RX10 64 yX10_isWithin : Cond) ∈ lw_tbl := tI_1 _ (List.mem_of_getElem? (i := 142) rfl)
theorem tw_172 : (Cond.methodLink RX10 68 yX3_beginTrial : Cond) ∈ lw_tbl := tI_1 _ (List.mem_of_getElem? (i := 143) rfl)
theorem tw_173 : (Cond.instanceMethod yX3_beginTrial : Cond) ∈ lw_tbl := tI_1 _ (List.mem_of_getElem? (i := 144) rfl)
theorem tw_174 : (Cond.selects RX3 yX3_beginTrial yX3_beginTrial : Cond) ∈ lw_tbl := tI_1 _ (List.mem_of_getElem? (i := 145) rfl)
theorem tw_175 : (Cond.code yX3_beginTrial cX3_beginTrial 1 none : Cond) ∈ lw_tbl := tI_1 _ (List.mem_of_getElem? (i := 146) rfl)
theorem tw_176 : (Cond.methodLink RX3 38 arraycopyName : Cond) ∈ lw_tbl := tI_1 _ (List.mem_of_getElem? (i := 147) rfl)
theorem tw_178 : (Cond.native arraycopyName : Cond) ∈ lw_tbl := tI_1 _ (List.mem_of_getElem? (i := 149) rfl)
theorem tw_177 : (Cond.static arraycopyName : Cond) ∈ lw_tbl := tI_1 _ (List.mem_of_getElem? (i := 148) rfl)
theorem tw_36 : (Cond.initialized "java/lang/System" : Cond) ∈ lw_tbl := tI_1 _ (List.mem_of_getElem? (i := 7) rfl)
theorem tw_179 : (Cond.methodLink RX10 71 yX3_numberOf : Cond) ∈ lw_tbl := tI_1 _ (List.mem_of_getElem? (i := 150) rfl)
theorem tw_180 : (Cond.static yX3_numberOf : Cond) ∈ lw_tbl := tI_1 _ (List.mem_of_getElem? (i := 151) rfl)
theorem tw_181 : (Cond.code yX3_numberOf cX3_numberOf 2 (some .int) : Cond) ∈ lw_tbl := tI_1 _ (List.mem_of_getElem? (i := 152) rfl)
theorem tw_182 : (Cond.methodLink RX10 75 yX3_tryCommon : Cond) ∈ lw_tbl := tI_1 _ (List.mem_of_getElem? (i := 153) rfl)
theorem tw_183 : (Cond.instanceMethod yX3_tryCommon : Cond) ∈ lw_tbl := tI_1 _ (List.mem_of_getElem? (i := 154) rfl)
theorem tw_184 : (Cond.selects RX3 yX3_tryCommon yX3_tryCommon : Cond) ∈ lw_tbl := tI_1 _ (List.mem_of_getElem? (i := 155) rfl)
theorem tw_185 : (Cond.code yX3_tryCommon cX3_tryCommon 4 none : Cond) ∈ lw_tbl := tI_1 _ (List.mem_of_getElem? (i := 156) rfl)
theorem tw_186 : (Cond.methodLink RX3 44 Lib.Math.max.name : Cond) ∈ lw_tbl := tI_1 _ (List.mem_of_getElem? (i := 157) rfl)
theorem tw_187 : (Cond.static Lib.Math.max.name : Cond) ∈ lw_tbl := tI_1 _ (List.mem_of_getElem? (i := 158) rfl)
theorem tw_37 : (Cond.initialized "java/lang/Math" : Cond) ∈ lw_tbl := tI_1 _ (List.mem_of_getElem? (i := 8) rfl)
theorem tw_188 : (Cond.code Lib.Math.max.name Lib.Math.max.code 2 (some .int) : Cond) ∈ lw_tbl := tI_1 _ (List.mem_of_getElem? (i := 159) rfl)
theorem wsL_law_r5_in : ∀ w ∈ wsL_law_r5, w ∈ lw_tbl := (List.forall_mem_cons.mpr ⟨tw_166, (List.forall_mem_cons.mpr ⟨tw_167, (List.forall_mem_cons.mpr ⟨tw_169, (List.forall_mem_cons.mpr ⟨tw_170, (List.forall_mem_cons.mpr ⟨tw_171, (List.forall_mem_cons.mpr ⟨tw_172, (List.forall_mem_cons.mpr ⟨tw_173, (List.forall_mem_cons.mpr ⟨tw_174, (List.forall_mem_cons.mpr ⟨tw_175, (List.forall_mem_cons.mpr ⟨tw_176, (List.forall_mem_cons.mpr ⟨tw_178, (List.forall_mem_cons.mpr ⟨tw_177, (List.forall_mem_cons.mpr ⟨tw_36, (List.forall_mem_cons.mpr ⟨tw_179, (List.forall_mem_cons.mpr ⟨tw_180, (List.forall_mem_cons.mpr ⟨tw_181, (List.forall_mem_cons.mpr ⟨tw_182, (List.forall_mem_cons.mpr ⟨tw_183, (List.forall_mem_cons.mpr ⟨tw_184, (List.forall_mem_cons.mpr ⟨tw_185, (List.forall_mem_cons.mpr ⟨tw_186, (List.forall_mem_cons.mpr ⟨tw_187, (List.forall_mem_cons.mpr ⟨tw_37, (List.forall_mem_cons.mpr ⟨tw_188, (fun _ h => absurd h List.not_mem_nil)⟩)⟩)⟩)⟩)⟩)⟩)⟩)⟩)⟩)⟩)⟩)⟩)⟩)⟩)⟩)⟩)⟩)⟩)⟩)⟩)⟩)⟩)⟩)⟩)
theorem tw_189 : (Cond.methodLink RX3 50 Lib.Math.min.name : Cond) ∈ lw_tbl := tI_1 _ (List.mem_of_getElem? (i := 160) rfl)
theorem tw_190 : (Cond.static Lib.Math.min.name : Cond) ∈ lw_tbl := tI_1 _ (List.mem_of_getElem? (i := 161) rfl)
theorem tw_191 : (Cond.code Lib.Math.min.name Lib.Math.min.code 2 (some .int) : Cond) ∈ lw_tbl := tI_1 _ (List.mem_of_getElem? (i := 162) rfl)
theorem tw_192 : (Cond.methodLink RX10 82 yX3_endTrial : Cond) ∈ lw_tbl := tI_1 _ (List.mem_of_getElem? (i := 163) rfl)
theorem tw_193 : (Cond.instanceMethod yX3_endTrial : Cond) ∈ lw_tbl := tI_1 _ (List.mem_of_getElem? (i := 164) rfl)
theorem tw_194 : (Cond.selects RX3 yX3_endTrial yX3_endTrial : Cond) ∈ lw_tbl := tI_1 _ (List.mem_of_getElem? (i := 165) rfl)
theorem tw_195 : (Cond.code yX3_endTrial cX3_endTrial 4 (some .int) : Cond) ∈ lw_tbl := tI_1 _ (List.mem_of_getElem? (i := 166) rfl)
theorem tw_196 : (Cond.methodLink RX3 53 yX3_narrowTrial : Cond) ∈ lw_tbl := tI_1 _ (List.mem_of_getElem? (i := 167) rfl)
theorem tw_198 : (Cond.instanceMethod yX3_narrowTrial : Cond) ∈ lw_tbl := tI_1 _ (List.mem_of_getElem? (i := 169) rfl)
theorem tw_0 : (Cond.selects RX3 yX3_narrowTrial yX3_narrowTrial : Cond) ∈ lw_tbl := tI_0 _ (List.mem_of_getElem? (i := 0) rfl)
theorem tw_199 : (Cond.code yX3_narrowTrial cX3_narrowTrial 3 none : Cond) ∈ lw_tbl := tI_1 _ (List.mem_of_getElem? (i := 170) rfl)
theorem tw_200 : (Cond.methodLink RX3 57 yX3_tryNeighbour : Cond) ∈ lw_tbl := tI_1 _ (List.mem_of_getElem? (i := 171) rfl)
theorem tw_202 : (Cond.instanceMethod yX3_tryNeighbour : Cond) ∈ lw_tbl := tI_1 _ (List.mem_of_getElem? (i := 173) rfl)
theorem tw_1 : (Cond.selects RX3 yX3_tryNeighbour yX3_tryNeighbour : Cond) ∈ lw_tbl := tI_0 _ (List.mem_of_getElem? (i := 1) rfl)
theorem tw_203 : (Cond.code yX3_tryNeighbour cX3_tryNeighbour 4 none : Cond) ∈ lw_tbl := tI_1 _ (List.mem_of_getElem? (i := 174) rfl)
theorem tw_204 : (Cond.methodLink RX3 61 yX3_tryCommon : Cond) ∈ lw_tbl := tI_1 _ (List.mem_of_getElem? (i := 175) rfl)
theorem tw_785 : (Cond.methodLink RL 17 yX11_find : Cond) ∈ lw_tbl := tI_4 _ (List.mem_of_getElem? (i := 36) rfl)
theorem tw_786 : (Cond.instanceMethod yX11_find : Cond) ∈ lw_tbl := tI_4 _ (List.mem_of_getElem? (i := 37) rfl)
theorem tw_787 : (Cond.selects RX11 yX11_find yX11_find : Cond) ∈ lw_tbl := tI_4 _ (List.mem_of_getElem? (i := 38) rfl)
theorem tw_788 : (Cond.code yX11_find cX11_find 5 (some .int) : Cond) ∈ lw_tbl := tI_4 _ (List.mem_of_getElem? (i := 39) rfl)
theorem tw_797 : (Cond.constantLong RX11 133 (1000) : Cond) ∈ lw_tbl := tI_4 _ (List.mem_of_getElem? (i := 48) rfl)
theorem tw_789 : (Cond.methodLink RX11 121 yX11_isSquare : Cond) ∈ lw_tbl := tI_4 _ (List.mem_of_getElem? (i := 40) rfl)
theorem tw_790 : (Cond.static yX11_isSquare : Cond) ∈ lw_tbl := tI_4 _ (List.mem_of_getElem? (i := 41) rfl)
theorem tw_791 : (Cond.code yX11_isSquare cX11_isSquare 2 (some .boolean) : Cond) ∈ lw_tbl := tI_4 _ (List.mem_of_getElem? (i := 42) rfl)
theorem wsL_law_r6_in : ∀ w ∈ wsL_law_r6, w ∈ lw_tbl := (List.forall_mem_cons.mpr ⟨tw_189, (List.forall_mem_cons.mpr ⟨tw_190, (List.forall_mem_cons.mpr ⟨tw_191, (List.forall_mem_cons.mpr ⟨tw_192, (List.forall_mem_cons.mpr ⟨tw_193, (List.forall_mem_cons.mpr ⟨tw_194, (List.forall_mem_cons.mpr ⟨tw_195, (List.forall_mem_cons.mpr ⟨tw_196, (List.forall_mem_cons.mpr ⟨tw_198, (List.forall_mem_cons.mpr ⟨tw_0, (List.forall_mem_cons.mpr ⟨tw_199, (List.forall_mem_cons.mpr ⟨tw_200, (List.forall_mem_cons.mpr ⟨tw_202, (List.forall_mem_cons.mpr ⟨tw_1, (List.forall_mem_cons.mpr ⟨tw_203, (List.forall_mem_cons.mpr ⟨tw_204, (List.forall_mem_cons.mpr ⟨tw_785, (List.forall_mem_cons.mpr ⟨tw_786, (List.forall_mem_cons.mpr ⟨tw_787, (List.forall_mem_cons.mpr ⟨tw_788, (List.forall_mem_cons.mpr ⟨tw_797, (List.forall_mem_cons.mpr ⟨tw_789, (List.forall_mem_cons.mpr ⟨tw_790, (List.forall_mem_cons.mpr ⟨tw_791, (fun _ h => absurd h List.not_mem_nil)⟩)⟩)⟩)⟩)⟩)⟩)⟩)⟩)⟩)⟩)⟩)⟩)⟩)⟩)⟩)⟩)⟩)⟩)⟩)⟩)⟩)⟩)⟩)⟩)
theorem tw_792 : (Cond.constantLong RX11 109 (7) : Cond) ∈ lw_tbl := tI_4 _ (List.mem_of_getElem? (i := 43) rfl)
theorem tw_796 : (Cond.constantLong RX11 115 (5) : Cond) ∈ lw_tbl := tI_4 _ (List.mem_of_getElem? (i := 47) rfl)
theorem tw_793 : (Cond.methodLink RX11 111 yX11_in : Cond) ∈ lw_tbl := tI_4 _ (List.mem_of_getElem? (i := 44) rfl)
theorem tw_794 : (Cond.static yX11_in : Cond) ∈ lw_tbl := tI_4 _ (List.mem_of_getElem? (i := 45) rfl)
theorem tw_795 : (Cond.code yX11_in cX11_in 6 (some .boolean) : Cond) ∈ lw_tbl := tI_4 _ (List.mem_of_getElem? (i := 46) rfl)
theorem tw_798 : (Cond.methodLink RX11 135 yX11_layNew : Cond) ∈ lw_tbl := tI_4 _ (List.mem_of_getElem? (i := 49) rfl)
theorem tw_800 : (Cond.instanceMethod yX11_layNew : Cond) ∈ lw_tbl := tI_4 _ (List.mem_of_getElem? (i := 51) rfl)
theorem tw_8 : (Cond.selects RX11 yX11_layNew yX11_layNew : Cond) ∈ lw_tbl := tI_0 _ (List.mem_of_getElem? (i := 8) rfl)
theorem tw_801 : (Cond.code yX11_layNew cX11_layNew 2 none : Cond) ∈ lw_tbl := tI_4 _ (List.mem_of_getElem? (i := 52) rfl)
theorem tw_802 : (Cond.methodLink RX11 125 yX11_meet : Cond) ∈ lw_tbl := tI_4 _ (List.mem_of_getElem? (i := 53) rfl)
theorem tw_804 : (Cond.instanceMethod yX11_meet : Cond) ∈ lw_tbl := tI_4 _ (List.mem_of_getElem? (i := 55) rfl)
theorem tw_9 : (Cond.selects RX11 yX11_meet yX11_meet : Cond) ∈ lw_tbl := tI_0 _ (List.mem_of_getElem? (i := 9) rfl)
theorem tw_805 : (Cond.code yX11_meet cX11_meet 4 none : Cond) ∈ lw_tbl := tI_4 _ (List.mem_of_getElem? (i := 56) rfl)
theorem tw_671 : (Cond.fieldLink RX11 117 "TributePitchesModel" "isChanged" "Z" : Cond) ∈ lw_tbl := tI_3 _ (List.mem_of_getElem? (i := 162) rfl)
theorem tw_806 : (Cond.methodLink RX11 138 yX11_narrowed : Cond) ∈ lw_tbl := tI_4 _ (List.mem_of_getElem? (i := 57) rfl)
theorem tw_808 : (Cond.instanceMethod yX11_narrowed : Cond) ∈ lw_tbl := tI_4 _ (List.mem_of_getElem? (i := 59) rfl)
theorem tw_10 : (Cond.selects RX11 yX11_narrowed yX11_narrowed : Cond) ∈ lw_tbl := tI_0 _ (List.mem_of_getElem? (i := 10) rfl)
theorem tw_809 : (Cond.code yX11_narrowed cX11_narrowed 4 (some .int) : Cond) ∈ lw_tbl := tI_4 _ (List.mem_of_getElem? (i := 60) rfl)
theorem tw_810 : (Cond.methodLink RX11 129 yX11_meetNeighbour : Cond) ∈ lw_tbl := tI_4 _ (List.mem_of_getElem? (i := 61) rfl)
theorem tw_812 : (Cond.instanceMethod yX11_meetNeighbour : Cond) ∈ lw_tbl := tI_4 _ (List.mem_of_getElem? (i := 63) rfl)
theorem tw_11 : (Cond.selects RX11 yX11_meetNeighbour yX11_meetNeighbour : Cond) ∈ lw_tbl := tI_0 _ (List.mem_of_getElem? (i := 11) rfl)
theorem tw_813 : (Cond.code yX11_meetNeighbour cX11_meetNeighbour 5 none : Cond) ∈ lw_tbl := tI_4 _ (List.mem_of_getElem? (i := 64) rfl)
theorem tw_205 : (Cond.methodLink RL 18 yX10_rise : Cond) ∈ lw_tbl := tI_1 _ (List.mem_of_getElem? (i := 176) rfl)
theorem tw_206 : (Cond.instanceMethod yX10_rise : Cond) ∈ lw_tbl := tI_1 _ (List.mem_of_getElem? (i := 177) rfl)
theorem wsL_law_r7_in : ∀ w ∈ wsL_law_r7, w ∈ lw_tbl := (List.forall_mem_cons.mpr ⟨tw_792, (List.forall_mem_cons.mpr ⟨tw_796, (List.forall_mem_cons.mpr ⟨tw_793, (List.forall_mem_cons.mpr ⟨tw_794, (List.forall_mem_cons.mpr ⟨tw_795, (List.forall_mem_cons.mpr ⟨tw_798, (List.forall_mem_cons.mpr ⟨tw_800, (List.forall_mem_cons.mpr ⟨tw_8, (List.forall_mem_cons.mpr ⟨tw_801, (List.forall_mem_cons.mpr ⟨tw_802, (List.forall_mem_cons.mpr ⟨tw_804, (List.forall_mem_cons.mpr ⟨tw_9, (List.forall_mem_cons.mpr ⟨tw_805, (List.forall_mem_cons.mpr ⟨tw_671, (List.forall_mem_cons.mpr ⟨tw_806, (List.forall_mem_cons.mpr ⟨tw_808, (List.forall_mem_cons.mpr ⟨tw_10, (List.forall_mem_cons.mpr ⟨tw_809, (List.forall_mem_cons.mpr ⟨tw_810, (List.forall_mem_cons.mpr ⟨tw_812, (List.forall_mem_cons.mpr ⟨tw_11, (List.forall_mem_cons.mpr ⟨tw_813, (List.forall_mem_cons.mpr ⟨tw_205, (List.forall_mem_cons.mpr ⟨tw_206, (fun _ h => absurd h List.not_mem_nil)⟩)⟩)⟩)⟩)⟩)⟩)⟩)⟩)⟩)⟩)⟩)⟩)⟩)⟩)⟩)⟩)⟩)⟩)⟩)⟩)⟩)⟩)⟩)⟩)
theorem tw_207 : (Cond.selects RX10 yX10_rise yX10_rise : Cond) ∈ lw_tbl := tI_1 _ (List.mem_of_getElem? (i := 178) rfl)
theorem tw_208 : (Cond.code yX10_rise cX10_rise 2 (some .int) : Cond) ∈ lw_tbl := tI_1 _ (List.mem_of_getElem? (i := 179) rfl)
theorem tw_814 : (Cond.methodLink RL 22 yX11_rise : Cond) ∈ lw_tbl := tI_4 _ (List.mem_of_getElem? (i := 65) rfl)
theorem tw_815 : (Cond.instanceMethod yX11_rise : Cond) ∈ lw_tbl := tI_4 _ (List.mem_of_getElem? (i := 66) rfl)
theorem tw_816 : (Cond.selects RX11 yX11_rise yX11_rise : Cond) ∈ lw_tbl := tI_4 _ (List.mem_of_getElem? (i := 67) rfl)
theorem tw_817 : (Cond.code yX11_rise cX11_rise 2 (some .int) : Cond) ∈ lw_tbl := tI_4 _ (List.mem_of_getElem? (i := 68) rfl)
theorem tw_209 : (Cond.methodLink RL 23 yX10_good : Cond) ∈ lw_tbl := tI_1 _ (List.mem_of_getElem? (i := 180) rfl)
theorem tw_210 : (Cond.instanceMethod yX10_good : Cond) ∈ lw_tbl := tI_1 _ (List.mem_of_getElem? (i := 181) rfl)
theorem tw_211 : (Cond.selects RX10 yX10_good yX10_good : Cond) ∈ lw_tbl := tI_1 _ (List.mem_of_getElem? (i := 182) rfl)
theorem tw_212 : (Cond.code yX10_good cX10_good 5 (some .int) : Cond) ∈ lw_tbl := tI_1 _ (List.mem_of_getElem? (i := 183) rfl)
theorem tw_63 : (Cond.fieldLink RX10 86 "TributePitches$Lode" "lows" "[I" : Cond) ∈ lw_tbl := tI_1 _ (List.mem_of_getElem? (i := 34) rfl)
theorem tw_66 : (Cond.fieldLink RX10 90 "TributePitches$Lode" "highs" "[I" : Cond) ∈ lw_tbl := tI_1 _ (List.mem_of_getElem? (i := 37) rfl)
theorem tw_818 : (Cond.methodLink RL 27 yX11_good : Cond) ∈ lw_tbl := tI_4 _ (List.mem_of_getElem? (i := 69) rfl)
theorem tw_819 : (Cond.instanceMethod yX11_good : Cond) ∈ lw_tbl := tI_4 _ (List.mem_of_getElem? (i := 70) rfl)
theorem tw_820 : (Cond.selects RX11 yX11_good yX11_good : Cond) ∈ lw_tbl := tI_4 _ (List.mem_of_getElem? (i := 71) rfl)
theorem tw_821 : (Cond.code yX11_good cX11_good 4 (some .int) : Cond) ∈ lw_tbl := tI_4 _ (List.mem_of_getElem? (i := 72) rfl)
theorem tw_213 : (Cond.methodLink RL 28 yX10_chart : Cond) ∈ lw_tbl := tI_1 _ (List.mem_of_getElem? (i := 184) rfl)
theorem tw_214 : (Cond.instanceMethod yX10_chart : Cond) ∈ lw_tbl := tI_1 _ (List.mem_of_getElem? (i := 185) rfl)
theorem tw_215 : (Cond.selects RX10 yX10_chart yX10_chart : Cond) ∈ lw_tbl := tI_1 _ (List.mem_of_getElem? (i := 186) rfl)
theorem tw_216 : (Cond.code yX10_chart cX10_chart 10 (some .int) : Cond) ∈ lw_tbl := tI_1 _ (List.mem_of_getElem? (i := 187) rfl)
theorem tw_99 : (Cond.fieldLink RX10 111 "TributePitches$Sheet" "cells" "[I" : Cond) ∈ lw_tbl := tI_1 _ (List.mem_of_getElem? (i := 70) rfl)
theorem tw_217 : (Cond.methodLink RX10 93 yX10_sheetAt : Cond) ∈ lw_tbl := tI_1 _ (List.mem_of_getElem? (i := 188) rfl)
theorem tw_219 : (Cond.instanceMethod yX10_sheetAt : Cond) ∈ lw_tbl := tI_1 _ (List.mem_of_getElem? (i := 190) rfl)
theorem tw_2 : (Cond.selects RX10 yX10_sheetAt yX10_sheetAt : Cond) ∈ lw_tbl := tI_0 _ (List.mem_of_getElem? (i := 2) rfl)
theorem wsL_law_r8_in : ∀ w ∈ wsL_law_r8, w ∈ lw_tbl := (List.forall_mem_cons.mpr ⟨tw_207, (List.forall_mem_cons.mpr ⟨tw_208, (List.forall_mem_cons.mpr ⟨tw_814, (List.forall_mem_cons.mpr ⟨tw_815, (List.forall_mem_cons.mpr ⟨tw_816, (List.forall_mem_cons.mpr ⟨tw_817, (List.forall_mem_cons.mpr ⟨tw_209, (List.forall_mem_cons.mpr ⟨tw_210, (List.forall_mem_cons.mpr ⟨tw_211, (List.forall_mem_cons.mpr ⟨tw_212, (List.forall_mem_cons.mpr ⟨tw_63, (List.forall_mem_cons.mpr ⟨tw_66, (List.forall_mem_cons.mpr ⟨tw_818, (List.forall_mem_cons.mpr ⟨tw_819, (List.forall_mem_cons.mpr ⟨tw_820, (List.forall_mem_cons.mpr ⟨tw_821, (List.forall_mem_cons.mpr ⟨tw_213, (List.forall_mem_cons.mpr ⟨tw_214, (List.forall_mem_cons.mpr ⟨tw_215, (List.forall_mem_cons.mpr ⟨tw_216, (List.forall_mem_cons.mpr ⟨tw_99, (List.forall_mem_cons.mpr ⟨tw_217, (List.forall_mem_cons.mpr ⟨tw_219, (List.forall_mem_cons.mpr ⟨tw_2, (fun _ h => absurd h List.not_mem_nil)⟩)⟩)⟩)⟩)⟩)⟩)⟩)⟩)⟩)⟩)⟩)⟩)⟩)⟩)⟩)⟩)⟩)⟩)⟩)⟩)⟩)⟩)⟩)⟩)
theorem tw_220 : (Cond.code yX10_sheetAt cX10_sheetAt 2 (some (.object "TributePitches$Sheet")) : Cond) ∈ lw_tbl := tI_1 _ (List.mem_of_getElem? (i := 191) rfl)
theorem tw_221 : (Cond.methodLink RX10 97 yX7_isLane : Cond) ∈ lw_tbl := tI_1 _ (List.mem_of_getElem? (i := 192) rfl)
theorem tw_222 : (Cond.static yX7_isLane : Cond) ∈ lw_tbl := tI_1 _ (List.mem_of_getElem? (i := 193) rfl)
theorem tw_223 : (Cond.code yX7_isLane cX7_isLane 1 (some .boolean) : Cond) ∈ lw_tbl := tI_1 _ (List.mem_of_getElem? (i := 194) rfl)
theorem tw_225 : (Cond.methodLink RX10 101 yX10_chartFault : Cond) ∈ lw_tbl := tI_1 _ (List.mem_of_getElem? (i := 196) rfl)
theorem tw_226 : (Cond.static yX10_chartFault : Cond) ∈ lw_tbl := tI_1 _ (List.mem_of_getElem? (i := 197) rfl)
theorem tw_227 : (Cond.code yX10_chartFault cX10_chartFault 6 (some .int) : Cond) ∈ lw_tbl := tI_1 _ (List.mem_of_getElem? (i := 198) rfl)
theorem tw_228 : (Cond.methodLink RX10 114 yX7_faultAs : Cond) ∈ lw_tbl := tI_1 _ (List.mem_of_getElem? (i := 199) rfl)
theorem tw_229 : (Cond.instanceMethod yX7_faultAs : Cond) ∈ lw_tbl := tI_1 _ (List.mem_of_getElem? (i := 200) rfl)
theorem tw_230 : (Cond.selects RX7 yX7_faultAs yX7_faultAs : Cond) ∈ lw_tbl := tI_1 _ (List.mem_of_getElem? (i := 201) rfl)
theorem tw_231 : (Cond.code yX7_faultAs cX7_faultAs 2 (some .int) : Cond) ∈ lw_tbl := tI_1 _ (List.mem_of_getElem? (i := 202) rfl)
theorem tw_232 : (Cond.methodLink RX7 32 yX7_hasNothing : Cond) ∈ lw_tbl := tI_1 _ (List.mem_of_getElem? (i := 203) rfl)
theorem tw_233 : (Cond.instanceMethod yX7_hasNothing : Cond) ∈ lw_tbl := tI_1 _ (List.mem_of_getElem? (i := 204) rfl)
theorem tw_234 : (Cond.selects RX7 yX7_hasNothing yX7_hasNothing : Cond) ∈ lw_tbl := tI_1 _ (List.mem_of_getElem? (i := 205) rfl)
theorem tw_235 : (Cond.code yX7_hasNothing cX7_hasNothing 1 (some .boolean) : Cond) ∈ lw_tbl := tI_1 _ (List.mem_of_getElem? (i := 206) rfl)
theorem tw_236 : (Cond.methodLink RX10 117 yX7_holds : Cond) ∈ lw_tbl := tI_1 _ (List.mem_of_getElem? (i := 207) rfl)
theorem tw_237 : (Cond.instanceMethod yX7_holds : Cond) ∈ lw_tbl := tI_1 _ (List.mem_of_getElem? (i := 208) rfl)
theorem tw_238 : (Cond.selects RX7 yX7_holds yX7_holds : Cond) ∈ lw_tbl := tI_1 _ (List.mem_of_getElem? (i := 209) rfl)
theorem tw_239 : (Cond.code yX7_holds cX7_holds 3 (some .boolean) : Cond) ∈ lw_tbl := tI_1 _ (List.mem_of_getElem? (i := 210) rfl)
theorem tw_102 : (Cond.fieldLink RX7 29 "TributePitches$Sheet" "length" "I" : Cond) ∈ lw_tbl := tI_1 _ (List.mem_of_getElem? (i := 73) rfl)
theorem tw_240 : (Cond.methodLink RX10 105 yX10_faulted : Cond) ∈ lw_tbl := tI_1 _ (List.mem_of_getElem? (i := 211) rfl)
theorem tw_242 : (Cond.instanceMethod yX10_faulted : Cond) ∈ lw_tbl := tI_1 _ (List.mem_of_getElem? (i := 213) rfl)
theorem tw_3 : (Cond.selects RX10 yX10_faulted yX10_faulted : Cond) ∈ lw_tbl := tI_0 _ (List.mem_of_getElem? (i := 3) rfl)
theorem tw_243 : (Cond.code yX10_faulted cX10_faulted 2 (some .int) : Cond) ∈ lw_tbl := tI_1 _ (List.mem_of_getElem? (i := 214) rfl)
theorem wsL_law_r9_in : ∀ w ∈ wsL_law_r9, w ∈ lw_tbl := (List.forall_mem_cons.mpr ⟨tw_220, (List.forall_mem_cons.mpr ⟨tw_221, (List.forall_mem_cons.mpr ⟨tw_222, (List.forall_mem_cons.mpr ⟨tw_223, (List.forall_mem_cons.mpr ⟨tw_225, (List.forall_mem_cons.mpr ⟨tw_226, (List.forall_mem_cons.mpr ⟨tw_227, (List.forall_mem_cons.mpr ⟨tw_228, (List.forall_mem_cons.mpr ⟨tw_229, (List.forall_mem_cons.mpr ⟨tw_230, (List.forall_mem_cons.mpr ⟨tw_231, (List.forall_mem_cons.mpr ⟨tw_232, (List.forall_mem_cons.mpr ⟨tw_233, (List.forall_mem_cons.mpr ⟨tw_234, (List.forall_mem_cons.mpr ⟨tw_235, (List.forall_mem_cons.mpr ⟨tw_236, (List.forall_mem_cons.mpr ⟨tw_237, (List.forall_mem_cons.mpr ⟨tw_238, (List.forall_mem_cons.mpr ⟨tw_239, (List.forall_mem_cons.mpr ⟨tw_102, (List.forall_mem_cons.mpr ⟨tw_240, (List.forall_mem_cons.mpr ⟨tw_242, (List.forall_mem_cons.mpr ⟨tw_3, (List.forall_mem_cons.mpr ⟨tw_243, (fun _ h => absurd h List.not_mem_nil)⟩)⟩)⟩)⟩)⟩)⟩)⟩)⟩)⟩)⟩)⟩)⟩)⟩)⟩)⟩)⟩)⟩)⟩)⟩)⟩)⟩)⟩)⟩)⟩)
theorem tw_244 : (Cond.methodLink RX10 108 yX7_hasAbove : Cond) ∈ lw_tbl := tI_1 _ (List.mem_of_getElem? (i := 215) rfl)
theorem tw_245 : (Cond.instanceMethod yX7_hasAbove : Cond) ∈ lw_tbl := tI_1 _ (List.mem_of_getElem? (i := 216) rfl)
theorem tw_246 : (Cond.selects RX7 yX7_hasAbove yX7_hasAbove : Cond) ∈ lw_tbl := tI_1 _ (List.mem_of_getElem? (i := 217) rfl)
theorem tw_247 : (Cond.code yX7_hasAbove cX7_hasAbove 5 (some .boolean) : Cond) ∈ lw_tbl := tI_1 _ (List.mem_of_getElem? (i := 218) rfl)
theorem tw_870 : (Cond.methodLink RL 32 yX11_chart : Cond) ∈ lw_tbl := tI_4 _ (List.mem_of_getElem? (i := 121) rfl)
theorem tw_871 : (Cond.instanceMethod yX11_chart : Cond) ∈ lw_tbl := tI_4 _ (List.mem_of_getElem? (i := 122) rfl)
theorem tw_872 : (Cond.selects RX11 yX11_chart yX11_chart : Cond) ∈ lw_tbl := tI_4 _ (List.mem_of_getElem? (i := 123) rfl)
theorem tw_873 : (Cond.code yX11_chart cX11_chart 8 (some .int) : Cond) ∈ lw_tbl := tI_4 _ (List.mem_of_getElem? (i := 124) rfl)
theorem tw_874 : (Cond.constantLong RX11 168 (47) : Cond) ∈ lw_tbl := tI_4 _ (List.mem_of_getElem? (i := 125) rfl)
theorem tw_834 : (Cond.constantLong RX11 151 (2) : Cond) ∈ lw_tbl := tI_4 _ (List.mem_of_getElem? (i := 85) rfl)
theorem tw_826 : (Cond.methodLink RX11 144 yX11_noSheet : Cond) ∈ lw_tbl := tI_4 _ (List.mem_of_getElem? (i := 77) rfl)
theorem tw_827 : (Cond.static yX11_noSheet : Cond) ∈ lw_tbl := tI_4 _ (List.mem_of_getElem? (i := 78) rfl)
theorem tw_828 : (Cond.code yX11_noSheet cX11_noSheet 1 (some .boolean) : Cond) ∈ lw_tbl := tI_4 _ (List.mem_of_getElem? (i := 79) rfl)
theorem tw_829 : (Cond.constantLong RX11 142 (3) : Cond) ∈ lw_tbl := tI_4 _ (List.mem_of_getElem? (i := 80) rfl)
theorem tw_830 : (Cond.methodLink RX11 148 yX11_refused : Cond) ∈ lw_tbl := tI_4 _ (List.mem_of_getElem? (i := 81) rfl)
theorem tw_832 : (Cond.instanceMethod yX11_refused : Cond) ∈ lw_tbl := tI_4 _ (List.mem_of_getElem? (i := 83) rfl)
theorem tw_12 : (Cond.selects RX11 yX11_refused yX11_refused : Cond) ∈ lw_tbl := tI_0 _ (List.mem_of_getElem? (i := 12) rfl)
theorem tw_833 : (Cond.code yX11_refused cX11_refused 2 (some .int) : Cond) ∈ lw_tbl := tI_4 _ (List.mem_of_getElem? (i := 84) rfl)
theorem tw_665 : (Cond.fieldLink RX11 102 "TributePitchesModel" "fault" "I" : Cond) ∈ lw_tbl := tI_3 _ (List.mem_of_getElem? (i := 156) rfl)
theorem tw_835 : (Cond.methodLink RX11 153 yX11_failed : Cond) ∈ lw_tbl := tI_4 _ (List.mem_of_getElem? (i := 86) rfl)
theorem tw_837 : (Cond.instanceMethod yX11_failed : Cond) ∈ lw_tbl := tI_4 _ (List.mem_of_getElem? (i := 88) rfl)
theorem tw_13 : (Cond.selects RX11 yX11_failed yX11_failed : Cond) ∈ lw_tbl := tI_0 _ (List.mem_of_getElem? (i := 13) rfl)
theorem tw_838 : (Cond.code yX11_failed cX11_failed 2 (some .int) : Cond) ∈ lw_tbl := tI_4 _ (List.mem_of_getElem? (i := 89) rfl)
theorem tw_867 : (Cond.methodLink RX11 164 yX11_isBeyond : Cond) ∈ lw_tbl := tI_4 _ (List.mem_of_getElem? (i := 118) rfl)
theorem wsL_law_r10_in : ∀ w ∈ wsL_law_r10, w ∈ lw_tbl := (List.forall_mem_cons.mpr ⟨tw_244, (List.forall_mem_cons.mpr ⟨tw_245, (List.forall_mem_cons.mpr ⟨tw_246, (List.forall_mem_cons.mpr ⟨tw_247, (List.forall_mem_cons.mpr ⟨tw_870, (List.forall_mem_cons.mpr ⟨tw_871, (List.forall_mem_cons.mpr ⟨tw_872, (List.forall_mem_cons.mpr ⟨tw_873, (List.forall_mem_cons.mpr ⟨tw_874, (List.forall_mem_cons.mpr ⟨tw_834, (List.forall_mem_cons.mpr ⟨tw_826, (List.forall_mem_cons.mpr ⟨tw_827, (List.forall_mem_cons.mpr ⟨tw_828, (List.forall_mem_cons.mpr ⟨tw_829, (List.forall_mem_cons.mpr ⟨tw_830, (List.forall_mem_cons.mpr ⟨tw_832, (List.forall_mem_cons.mpr ⟨tw_12, (List.forall_mem_cons.mpr ⟨tw_833, (List.forall_mem_cons.mpr ⟨tw_665, (List.forall_mem_cons.mpr ⟨tw_835, (List.forall_mem_cons.mpr ⟨tw_837, (List.forall_mem_cons.mpr ⟨tw_13, (List.forall_mem_cons.mpr ⟨tw_838, (List.forall_mem_cons.mpr ⟨tw_867, (fun _ h => absurd h List.not_mem_nil)⟩)⟩)⟩)⟩)⟩)⟩)⟩)⟩)⟩)⟩)⟩)⟩)⟩)⟩)⟩)⟩)⟩)⟩)⟩)⟩)⟩)⟩)⟩)⟩)
theorem tw_868 : (Cond.static yX11_isBeyond : Cond) ∈ lw_tbl := tI_4 _ (List.mem_of_getElem? (i := 119) rfl)
theorem tw_869 : (Cond.code yX11_isBeyond cX11_isBeyond 3 (some .boolean) : Cond) ∈ lw_tbl := tI_4 _ (List.mem_of_getElem? (i := 120) rfl)
theorem tw_248 : (Cond.methodLink RL 33 yX10_pitch : Cond) ∈ lw_tbl := tI_1 _ (List.mem_of_getElem? (i := 219) rfl)
theorem tw_249 : (Cond.instanceMethod yX10_pitch : Cond) ∈ lw_tbl := tI_1 _ (List.mem_of_getElem? (i := 220) rfl)
theorem tw_250 : (Cond.selects RX10 yX10_pitch yX10_pitch : Cond) ∈ lw_tbl := tI_1 _ (List.mem_of_getElem? (i := 221) rfl)
theorem tw_251 : (Cond.code yX10_pitch cX10_pitch 6 (some .int) : Cond) ∈ lw_tbl := tI_1 _ (List.mem_of_getElem? (i := 222) rfl)
theorem tw_128 : (Cond.fieldLink RX10 124 "TributePitches" "pitchCount" "I" : Cond) ∈ lw_tbl := tI_1 _ (List.mem_of_getElem? (i := 99) rfl)
theorem tw_260 : (Cond.instantiable RX6 8 : Cond) ∈ lw_tbl := tI_1 _ (List.mem_of_getElem? (i := 231) rfl)
theorem tw_38 : (Cond.initialized RX6 : Cond) ∈ lw_tbl := tI_1 _ (List.mem_of_getElem? (i := 9) rfl)
theorem tw_252 : (Cond.methodLink RX10 120 yX10_isAnyPitched : Cond) ∈ lw_tbl := tI_1 _ (List.mem_of_getElem? (i := 223) rfl)
theorem tw_254 : (Cond.instanceMethod yX10_isAnyPitched : Cond) ∈ lw_tbl := tI_1 _ (List.mem_of_getElem? (i := 225) rfl)
theorem tw_4 : (Cond.selects RX10 yX10_isAnyPitched yX10_isAnyPitched : Cond) ∈ lw_tbl := tI_0 _ (List.mem_of_getElem? (i := 4) rfl)
theorem tw_255 : (Cond.code yX10_isAnyPitched cX10_isAnyPitched 6 (some .boolean) : Cond) ∈ lw_tbl := tI_1 _ (List.mem_of_getElem? (i := 226) rfl)
theorem tw_256 : (Cond.methodLink RX10 130 yX6_meets : Cond) ∈ lw_tbl := tI_1 _ (List.mem_of_getElem? (i := 227) rfl)
theorem tw_257 : (Cond.instanceMethod yX6_meets : Cond) ∈ lw_tbl := tI_1 _ (List.mem_of_getElem? (i := 228) rfl)
theorem tw_258 : (Cond.selects RX6 yX6_meets yX6_meets : Cond) ∈ lw_tbl := tI_1 _ (List.mem_of_getElem? (i := 229) rfl)
theorem tw_259 : (Cond.code yX6_meets cX6_meets 5 (some .boolean) : Cond) ∈ lw_tbl := tI_1 _ (List.mem_of_getElem? (i := 230) rfl)
theorem tw_267 : (Cond.fieldLink RX6 13 "TributePitches$Pitch" "x" "I" : Cond) ∈ lw_tbl := tI_1 _ (List.mem_of_getElem? (i := 238) rfl)
theorem tw_271 : (Cond.fieldLink RX6 19 "TributePitches$Pitch" "x2" "I" : Cond) ∈ lw_tbl := tI_2 _ (List.mem_of_getElem? (i := 2) rfl)
theorem tw_269 : (Cond.fieldLink RX6 16 "TributePitches$Pitch" "y" "I" : Cond) ∈ lw_tbl := tI_2 _ (List.mem_of_getElem? (i := 0) rfl)
theorem tw_273 : (Cond.fieldLink RX6 22 "TributePitches$Pitch" "y2" "I" : Cond) ∈ lw_tbl := tI_2 _ (List.mem_of_getElem? (i := 4) rfl)
theorem tw_261 : (Cond.methodLink RX10 127 yX6_init : Cond) ∈ lw_tbl := tI_1 _ (List.mem_of_getElem? (i := 232) rfl)
theorem tw_262 : (Cond.instanceMethod yX6_init : Cond) ∈ lw_tbl := tI_1 _ (List.mem_of_getElem? (i := 233) rfl)
theorem tw_263 : (Cond.code yX6_init cX6_init 7 none : Cond) ∈ lw_tbl := tI_1 _ (List.mem_of_getElem? (i := 234) rfl)
theorem wsL_law_r11_in : ∀ w ∈ wsL_law_r11, w ∈ lw_tbl := (List.forall_mem_cons.mpr ⟨tw_868, (List.forall_mem_cons.mpr ⟨tw_869, (List.forall_mem_cons.mpr ⟨tw_248, (List.forall_mem_cons.mpr ⟨tw_249, (List.forall_mem_cons.mpr ⟨tw_250, (List.forall_mem_cons.mpr ⟨tw_251, (List.forall_mem_cons.mpr ⟨tw_128, (List.forall_mem_cons.mpr ⟨tw_260, (List.forall_mem_cons.mpr ⟨tw_38, (List.forall_mem_cons.mpr ⟨tw_252, (List.forall_mem_cons.mpr ⟨tw_254, (List.forall_mem_cons.mpr ⟨tw_4, (List.forall_mem_cons.mpr ⟨tw_255, (List.forall_mem_cons.mpr ⟨tw_256, (List.forall_mem_cons.mpr ⟨tw_257, (List.forall_mem_cons.mpr ⟨tw_258, (List.forall_mem_cons.mpr ⟨tw_259, (List.forall_mem_cons.mpr ⟨tw_267, (List.forall_mem_cons.mpr ⟨tw_271, (List.forall_mem_cons.mpr ⟨tw_269, (List.forall_mem_cons.mpr ⟨tw_273, (List.forall_mem_cons.mpr ⟨tw_261, (List.forall_mem_cons.mpr ⟨tw_262, (List.forall_mem_cons.mpr ⟨tw_263, (fun _ h => absurd h List.not_mem_nil)⟩)⟩)⟩)⟩)⟩)⟩)⟩)⟩)⟩)⟩)⟩)⟩)⟩)⟩)⟩)⟩)⟩)⟩)⟩)⟩)⟩)⟩)⟩)⟩)
theorem tw_264 : (Cond.methodLink RX6 1 objectInit : Cond) ∈ lw_tbl := tI_1 _ (List.mem_of_getElem? (i := 235) rfl)
theorem tw_265 : (Cond.fieldLink RX6 7 "TributePitches$Pitch" "number" "I" : Cond) ∈ lw_tbl := tI_1 _ (List.mem_of_getElem? (i := 236) rfl)
theorem tw_275 : (Cond.fieldLink RX6 25 "TributePitches$Pitch" "tons" "I" : Cond) ∈ lw_tbl := tI_2 _ (List.mem_of_getElem? (i := 6) rfl)
theorem tw_875 : (Cond.methodLink RL 36 yX11_pitch : Cond) ∈ lw_tbl := tI_4 _ (List.mem_of_getElem? (i := 126) rfl)
theorem tw_876 : (Cond.instanceMethod yX11_pitch : Cond) ∈ lw_tbl := tI_4 _ (List.mem_of_getElem? (i := 127) rfl)
theorem tw_877 : (Cond.selects RX11 yX11_pitch yX11_pitch : Cond) ∈ lw_tbl := tI_4 _ (List.mem_of_getElem? (i := 128) rfl)
theorem tw_878 : (Cond.code yX11_pitch cX11_pitch 7 (some .int) : Cond) ∈ lw_tbl := tI_4 _ (List.mem_of_getElem? (i := 129) rfl)
theorem tw_879 : (Cond.constantLong RX11 173 (100) : Cond) ∈ lw_tbl := tI_4 _ (List.mem_of_getElem? (i := 130) rfl)
theorem tw_676 : (Cond.fieldLink RX11 170 "TributePitchesModel" "pitches" "I" : Cond) ∈ lw_tbl := tI_3 _ (List.mem_of_getElem? (i := 167) rfl)
theorem tw_298 : (Cond.methodLink RL 37 yX10_foretold : Cond) ∈ lw_tbl := tI_2 _ (List.mem_of_getElem? (i := 29) rfl)
theorem tw_299 : (Cond.instanceMethod yX10_foretold : Cond) ∈ lw_tbl := tI_2 _ (List.mem_of_getElem? (i := 30) rfl)
theorem tw_300 : (Cond.selects RX10 yX10_foretold yX10_foretold : Cond) ∈ lw_tbl := tI_2 _ (List.mem_of_getElem? (i := 31) rfl)
theorem tw_301 : (Cond.code yX10_foretold cX10_foretold 4 (some .long) : Cond) ∈ lw_tbl := tI_2 _ (List.mem_of_getElem? (i := 32) rfl)
theorem tw_306 : (Cond.constantLong RX10 137 (-9223372036854775808) : Cond) ∈ lw_tbl := tI_2 _ (List.mem_of_getElem? (i := 37) rfl)
theorem tw_302 : (Cond.methodLink RX10 133 yX10_pitchAt : Cond) ∈ lw_tbl := tI_2 _ (List.mem_of_getElem? (i := 33) rfl)
theorem tw_304 : (Cond.instanceMethod yX10_pitchAt : Cond) ∈ lw_tbl := tI_2 _ (List.mem_of_getElem? (i := 35) rfl)
theorem tw_5 : (Cond.selects RX10 yX10_pitchAt yX10_pitchAt : Cond) ∈ lw_tbl := tI_0 _ (List.mem_of_getElem? (i := 5) rfl)
theorem tw_305 : (Cond.code yX10_pitchAt cX10_pitchAt 2 (some (.object "TributePitches$Pitch")) : Cond) ∈ lw_tbl := tI_2 _ (List.mem_of_getElem? (i := 36) rfl)
theorem tw_307 : (Cond.methodLink RX10 139 yX6_foretoldBy : Cond) ∈ lw_tbl := tI_2 _ (List.mem_of_getElem? (i := 38) rfl)
theorem tw_308 : (Cond.instanceMethod yX6_foretoldBy : Cond) ∈ lw_tbl := tI_2 _ (List.mem_of_getElem? (i := 39) rfl)
theorem tw_309 : (Cond.selects RX6 yX6_foretoldBy yX6_foretoldBy : Cond) ∈ lw_tbl := tI_2 _ (List.mem_of_getElem? (i := 40) rfl)
theorem tw_310 : (Cond.code yX6_foretoldBy cX6_foretoldBy 6 (some .long) : Cond) ∈ lw_tbl := tI_2 _ (List.mem_of_getElem? (i := 41) rfl)
theorem tw_311 : (Cond.methodLink RX6 28 yX3_numberOf : Cond) ∈ lw_tbl := tI_2 _ (List.mem_of_getElem? (i := 42) rfl)
theorem tw_880 : (Cond.methodLink RL 41 yX11_foretold : Cond) ∈ lw_tbl := tI_4 _ (List.mem_of_getElem? (i := 131) rfl)
theorem wsL_law_r12_in : ∀ w ∈ wsL_law_r12, w ∈ lw_tbl := (List.forall_mem_cons.mpr ⟨tw_264, (List.forall_mem_cons.mpr ⟨tw_265, (List.forall_mem_cons.mpr ⟨tw_275, (List.forall_mem_cons.mpr ⟨tw_875, (List.forall_mem_cons.mpr ⟨tw_876, (List.forall_mem_cons.mpr ⟨tw_877, (List.forall_mem_cons.mpr ⟨tw_878, (List.forall_mem_cons.mpr ⟨tw_879, (List.forall_mem_cons.mpr ⟨tw_676, (List.forall_mem_cons.mpr ⟨tw_298, (List.forall_mem_cons.mpr ⟨tw_299, (List.forall_mem_cons.mpr ⟨tw_300, (List.forall_mem_cons.mpr ⟨tw_301, (List.forall_mem_cons.mpr ⟨tw_306, (List.forall_mem_cons.mpr ⟨tw_302, (List.forall_mem_cons.mpr ⟨tw_304, (List.forall_mem_cons.mpr ⟨tw_5, (List.forall_mem_cons.mpr ⟨tw_305, (List.forall_mem_cons.mpr ⟨tw_307, (List.forall_mem_cons.mpr ⟨tw_308, (List.forall_mem_cons.mpr ⟨tw_309, (List.forall_mem_cons.mpr ⟨tw_310, (List.forall_mem_cons.mpr ⟨tw_311, (List.forall_mem_cons.mpr ⟨tw_880, (fun _ h => absurd h List.not_mem_nil)⟩)⟩)⟩)⟩)⟩)⟩)⟩)⟩)⟩)⟩)⟩)⟩)⟩)⟩)⟩)⟩)⟩)⟩)⟩)⟩)⟩)⟩)⟩)⟩)
theorem tw_881 : (Cond.instanceMethod yX11_foretold : Cond) ∈ lw_tbl := tI_4 _ (List.mem_of_getElem? (i := 132) rfl)
theorem tw_882 : (Cond.selects RX11 yX11_foretold yX11_foretold : Cond) ∈ lw_tbl := tI_4 _ (List.mem_of_getElem? (i := 133) rfl)
theorem tw_883 : (Cond.code yX11_foretold cX11_foretold 3 (some .long) : Cond) ∈ lw_tbl := tI_4 _ (List.mem_of_getElem? (i := 134) rfl)
theorem tw_884 : (Cond.methodLink RX11 178 yX11_noPitch : Cond) ∈ lw_tbl := tI_4 _ (List.mem_of_getElem? (i := 135) rfl)
theorem tw_886 : (Cond.instanceMethod yX11_noPitch : Cond) ∈ lw_tbl := tI_4 _ (List.mem_of_getElem? (i := 137) rfl)
theorem tw_16 : (Cond.selects RX11 yX11_noPitch yX11_noPitch : Cond) ∈ lw_tbl := tI_0 _ (List.mem_of_getElem? (i := 16) rfl)
theorem tw_887 : (Cond.code yX11_noPitch cX11_noPitch 2 (some .boolean) : Cond) ∈ lw_tbl := tI_4 _ (List.mem_of_getElem? (i := 138) rfl)
theorem tw_855 : (Cond.methodLink RX11 105 yX11_lost : Cond) ∈ lw_tbl := tI_4 _ (List.mem_of_getElem? (i := 106) rfl)
theorem tw_856 : (Cond.static yX11_lost : Cond) ∈ lw_tbl := tI_4 _ (List.mem_of_getElem? (i := 107) rfl)
theorem tw_857 : (Cond.code yX11_lost cX11_lost 0 (some .long) : Cond) ∈ lw_tbl := tI_4 _ (List.mem_of_getElem? (i := 108) rfl)
theorem tw_858 : (Cond.constantLong RX11 100 (-9223372036854775808) : Cond) ∈ lw_tbl := tI_4 _ (List.mem_of_getElem? (i := 109) rfl)
theorem tw_888 : (Cond.methodLink RX11 181 yX11_foretoldOf : Cond) ∈ lw_tbl := tI_4 _ (List.mem_of_getElem? (i := 139) rfl)
theorem tw_890 : (Cond.instanceMethod yX11_foretoldOf : Cond) ∈ lw_tbl := tI_4 _ (List.mem_of_getElem? (i := 141) rfl)
theorem tw_17 : (Cond.selects RX11 yX11_foretoldOf yX11_foretoldOf : Cond) ∈ lw_tbl := tI_0 _ (List.mem_of_getElem? (i := 17) rfl)
theorem tw_891 : (Cond.code yX11_foretoldOf cX11_foretoldOf 6 (some .long) : Cond) ∈ lw_tbl := tI_4 _ (List.mem_of_getElem? (i := 142) rfl)
theorem tw_892 : (Cond.methodLink RX11 175 yX11_isOn : Cond) ∈ lw_tbl := tI_4 _ (List.mem_of_getElem? (i := 143) rfl)
theorem tw_894 : (Cond.instanceMethod yX11_isOn : Cond) ∈ lw_tbl := tI_4 _ (List.mem_of_getElem? (i := 145) rfl)
theorem tw_18 : (Cond.selects RX11 yX11_isOn yX11_isOn : Cond) ∈ lw_tbl := tI_0 _ (List.mem_of_getElem? (i := 18) rfl)
theorem tw_895 : (Cond.code yX11_isOn cX11_isOn 3 (some .boolean) : Cond) ∈ lw_tbl := tI_4 _ (List.mem_of_getElem? (i := 146) rfl)
theorem tw_312 : (Cond.methodLink RL 42 yX10_gang : Cond) ∈ lw_tbl := tI_2 _ (List.mem_of_getElem? (i := 43) rfl)
theorem tw_313 : (Cond.instanceMethod yX10_gang : Cond) ∈ lw_tbl := tI_2 _ (List.mem_of_getElem? (i := 44) rfl)
theorem tw_314 : (Cond.selects RX10 yX10_gang yX10_gang : Cond) ∈ lw_tbl := tI_2 _ (List.mem_of_getElem? (i := 45) rfl)
theorem tw_315 : (Cond.code yX10_gang cX10_gang 2 (some .int) : Cond) ∈ lw_tbl := tI_2 _ (List.mem_of_getElem? (i := 46) rfl)
theorem tw_129 : (Cond.fieldLink RX10 143 "TributePitches" "gangCount" "I" : Cond) ∈ lw_tbl := tI_1 _ (List.mem_of_getElem? (i := 100) rfl)
theorem wsL_law_r13_in : ∀ w ∈ wsL_law_r13, w ∈ lw_tbl := (List.forall_mem_cons.mpr ⟨tw_881, (List.forall_mem_cons.mpr ⟨tw_882, (List.forall_mem_cons.mpr ⟨tw_883, (List.forall_mem_cons.mpr ⟨tw_884, (List.forall_mem_cons.mpr ⟨tw_886, (List.forall_mem_cons.mpr ⟨tw_16, (List.forall_mem_cons.mpr ⟨tw_887, (List.forall_mem_cons.mpr ⟨tw_855, (List.forall_mem_cons.mpr ⟨tw_856, (List.forall_mem_cons.mpr ⟨tw_857, (List.forall_mem_cons.mpr ⟨tw_858, (List.forall_mem_cons.mpr ⟨tw_888, (List.forall_mem_cons.mpr ⟨tw_890, (List.forall_mem_cons.mpr ⟨tw_17, (List.forall_mem_cons.mpr ⟨tw_891, (List.forall_mem_cons.mpr ⟨tw_892, (List.forall_mem_cons.mpr ⟨tw_894, (List.forall_mem_cons.mpr ⟨tw_18, (List.forall_mem_cons.mpr ⟨tw_895, (List.forall_mem_cons.mpr ⟨tw_312, (List.forall_mem_cons.mpr ⟨tw_313, (List.forall_mem_cons.mpr ⟨tw_314, (List.forall_mem_cons.mpr ⟨tw_315, (List.forall_mem_cons.mpr ⟨tw_129, (fun _ h => absurd h List.not_mem_nil)⟩)⟩)⟩)⟩)⟩)⟩)⟩)⟩)⟩)⟩)⟩)⟩)⟩)⟩)⟩)⟩)⟩)⟩)⟩)⟩)⟩)⟩)⟩)⟩)
theorem tw_316 : (Cond.methodLink RX10 146 yX10_newGang : Cond) ∈ lw_tbl := tI_2 _ (List.mem_of_getElem? (i := 47) rfl)
theorem tw_317 : (Cond.static yX10_newGang : Cond) ∈ lw_tbl := tI_2 _ (List.mem_of_getElem? (i := 48) rfl)
theorem tw_318 : (Cond.code yX10_newGang cX10_newGang 2 (some (.object "TributePitches$Gang")) : Cond) ∈ lw_tbl := tI_2 _ (List.mem_of_getElem? (i := 49) rfl)
theorem tw_319 : (Cond.classLink RX10 150 RX4 : Cond) ∈ lw_tbl := tI_2 _ (List.mem_of_getElem? (i := 50) rfl)
theorem tw_320 : (Cond.instantiable RX4 4 : Cond) ∈ lw_tbl := tI_2 _ (List.mem_of_getElem? (i := 51) rfl)
theorem tw_41 : (Cond.initialized RX4 : Cond) ∈ lw_tbl := tI_1 _ (List.mem_of_getElem? (i := 12) rfl)
theorem tw_351 : (Cond.classLink RX10 155 RX1 : Cond) ∈ lw_tbl := tI_2 _ (List.mem_of_getElem? (i := 82) rfl)
theorem tw_352 : (Cond.instantiable RX1 4 : Cond) ∈ lw_tbl := tI_2 _ (List.mem_of_getElem? (i := 83) rfl)
theorem tw_40 : (Cond.initialized RX1 : Cond) ∈ lw_tbl := tI_1 _ (List.mem_of_getElem? (i := 11) rfl)
theorem tw_359 : (Cond.instantiable RX2 4 : Cond) ∈ lw_tbl := tI_2 _ (List.mem_of_getElem? (i := 90) rfl)
theorem tw_39 : (Cond.initialized RX2 : Cond) ∈ lw_tbl := tI_1 _ (List.mem_of_getElem? (i := 10) rfl)
theorem tw_321 : (Cond.methodLink RX10 152 yX4_init : Cond) ∈ lw_tbl := tI_2 _ (List.mem_of_getElem? (i := 52) rfl)
theorem tw_322 : (Cond.instanceMethod yX4_init : Cond) ∈ lw_tbl := tI_2 _ (List.mem_of_getElem? (i := 53) rfl)
theorem tw_323 : (Cond.code yX4_init cX4_init 2 none : Cond) ∈ lw_tbl := tI_2 _ (List.mem_of_getElem? (i := 54) rfl)
theorem tw_324 : (Cond.methodLink RX4 1 yX1_init : Cond) ∈ lw_tbl := tI_2 _ (List.mem_of_getElem? (i := 55) rfl)
theorem tw_325 : (Cond.instanceMethod yX1_init : Cond) ∈ lw_tbl := tI_2 _ (List.mem_of_getElem? (i := 56) rfl)
theorem tw_326 : (Cond.code yX1_init cX1_init 2 none : Cond) ∈ lw_tbl := tI_2 _ (List.mem_of_getElem? (i := 57) rfl)
theorem tw_327 : (Cond.methodLink RX1 1 yX2_init : Cond) ∈ lw_tbl := tI_2 _ (List.mem_of_getElem? (i := 58) rfl)
theorem tw_328 : (Cond.instanceMethod yX2_init : Cond) ∈ lw_tbl := tI_2 _ (List.mem_of_getElem? (i := 59) rfl)
theorem tw_329 : (Cond.code yX2_init cX2_init 2 none : Cond) ∈ lw_tbl := tI_2 _ (List.mem_of_getElem? (i := 60) rfl)
theorem tw_330 : (Cond.methodLink RX2 3 objectInit : Cond) ∈ lw_tbl := tI_2 _ (List.mem_of_getElem? (i := 61) rfl)
theorem tw_331 : (Cond.fieldLink RX2 9 "TributePitches$Gang" "number" "I" : Cond) ∈ lw_tbl := tI_2 _ (List.mem_of_getElem? (i := 62) rfl)
theorem tw_353 : (Cond.methodLink RX10 157 yX1_init : Cond) ∈ lw_tbl := tI_2 _ (List.mem_of_getElem? (i := 84) rfl)
theorem tw_360 : (Cond.methodLink RX10 158 yX2_init : Cond) ∈ lw_tbl := tI_2 _ (List.mem_of_getElem? (i := 91) rfl)
theorem wsL_law_r14_in : ∀ w ∈ wsL_law_r14, w ∈ lw_tbl := (List.forall_mem_cons.mpr ⟨tw_316, (List.forall_mem_cons.mpr ⟨tw_317, (List.forall_mem_cons.mpr ⟨tw_318, (List.forall_mem_cons.mpr ⟨tw_319, (List.forall_mem_cons.mpr ⟨tw_320, (List.forall_mem_cons.mpr ⟨tw_41, (List.forall_mem_cons.mpr ⟨tw_351, (List.forall_mem_cons.mpr ⟨tw_352, (List.forall_mem_cons.mpr ⟨tw_40, (List.forall_mem_cons.mpr ⟨tw_359, (List.forall_mem_cons.mpr ⟨tw_39, (List.forall_mem_cons.mpr ⟨tw_321, (List.forall_mem_cons.mpr ⟨tw_322, (List.forall_mem_cons.mpr ⟨tw_323, (List.forall_mem_cons.mpr ⟨tw_324, (List.forall_mem_cons.mpr ⟨tw_325, (List.forall_mem_cons.mpr ⟨tw_326, (List.forall_mem_cons.mpr ⟨tw_327, (List.forall_mem_cons.mpr ⟨tw_328, (List.forall_mem_cons.mpr ⟨tw_329, (List.forall_mem_cons.mpr ⟨tw_330, (List.forall_mem_cons.mpr ⟨tw_331, (List.forall_mem_cons.mpr ⟨tw_353, (List.forall_mem_cons.mpr ⟨tw_360, (fun _ h => absurd h List.not_mem_nil)⟩)⟩)⟩)⟩)⟩)⟩)⟩)⟩)⟩)⟩)⟩)⟩)⟩)⟩)⟩)⟩)⟩)⟩)⟩)⟩)⟩)⟩)⟩)⟩)
theorem tw_896 : (Cond.methodLink RL 45 yX11_gang : Cond) ∈ lw_tbl := tI_4 _ (List.mem_of_getElem? (i := 147) rfl)
theorem tw_897 : (Cond.instanceMethod yX11_gang : Cond) ∈ lw_tbl := tI_4 _ (List.mem_of_getElem? (i := 148) rfl)
theorem tw_898 : (Cond.selects RX11 yX11_gang yX11_gang : Cond) ∈ lw_tbl := tI_4 _ (List.mem_of_getElem? (i := 149) rfl)
theorem tw_899 : (Cond.code yX11_gang cX11_gang 2 (some .int) : Cond) ∈ lw_tbl := tI_4 _ (List.mem_of_getElem? (i := 150) rfl)
theorem tw_682 : (Cond.fieldLink RX11 185 "TributePitchesModel" "gangs" "I" : Cond) ∈ lw_tbl := tI_3 _ (List.mem_of_getElem? (i := 173) rfl)
theorem tw_366 : (Cond.methodLink RL 46 yX10_auction : Cond) ∈ lw_tbl := tI_2 _ (List.mem_of_getElem? (i := 97) rfl)
theorem tw_367 : (Cond.instanceMethod yX10_auction : Cond) ∈ lw_tbl := tI_2 _ (List.mem_of_getElem? (i := 98) rfl)
theorem tw_368 : (Cond.selects RX10 yX10_auction yX10_auction : Cond) ∈ lw_tbl := tI_2 _ (List.mem_of_getElem? (i := 99) rfl)
theorem tw_369 : (Cond.code yX10_auction cX10_auction 4 (some .int) : Cond) ∈ lw_tbl := tI_2 _ (List.mem_of_getElem? (i := 100) rfl)
theorem tw_280 : (Cond.fieldLink RX10 159 "TributePitches$Pitch" "take" "LTributePitches$Take;" : Cond) ∈ lw_tbl := tI_2 _ (List.mem_of_getElem? (i := 11) rfl)
theorem tw_132 : (Cond.fieldLink RX10 163 "TributePitches" "current" "LTributePitches$Auction;" : Cond) ∈ lw_tbl := tI_1 _ (List.mem_of_getElem? (i := 103) rfl)
theorem tw_370 : (Cond.classLink RX10 167 RX0 : Cond) ∈ lw_tbl := tI_2 _ (List.mem_of_getElem? (i := 101) rfl)
theorem tw_371 : (Cond.instantiable RX0 4 : Cond) ∈ lw_tbl := tI_2 _ (List.mem_of_getElem? (i := 102) rfl)
theorem tw_42 : (Cond.initialized RX0 : Cond) ∈ lw_tbl := tI_1 _ (List.mem_of_getElem? (i := 13) rfl)
theorem tw_372 : (Cond.methodLink RX10 169 yX0_init : Cond) ∈ lw_tbl := tI_2 _ (List.mem_of_getElem? (i := 103) rfl)
theorem tw_373 : (Cond.instanceMethod yX0_init : Cond) ∈ lw_tbl := tI_2 _ (List.mem_of_getElem? (i := 104) rfl)
theorem tw_374 : (Cond.code yX0_init cX0_init 3 none : Cond) ∈ lw_tbl := tI_2 _ (List.mem_of_getElem? (i := 105) rfl)
theorem tw_375 : (Cond.methodLink RX0 1 objectInit : Cond) ∈ lw_tbl := tI_2 _ (List.mem_of_getElem? (i := 106) rfl)
theorem tw_376 : (Cond.fieldLink RX0 7 "TributePitches$Auction" "pitch" "LTributePitches$Pitch;" : Cond) ∈ lw_tbl := tI_2 _ (List.mem_of_getElem? (i := 107) rfl)
theorem tw_378 : (Cond.fieldLink RX0 13 "TributePitches$Auction" "share" "I" : Cond) ∈ lw_tbl := tI_2 _ (List.mem_of_getElem? (i := 109) rfl)
theorem tw_900 : (Cond.methodLink RL 50 yX11_auction : Cond) ∈ lw_tbl := tI_4 _ (List.mem_of_getElem? (i := 151) rfl)
theorem tw_901 : (Cond.instanceMethod yX11_auction : Cond) ∈ lw_tbl := tI_4 _ (List.mem_of_getElem? (i := 152) rfl)
theorem tw_902 : (Cond.selects RX11 yX11_auction yX11_auction : Cond) ∈ lw_tbl := tI_4 _ (List.mem_of_getElem? (i := 153) rfl)
theorem tw_903 : (Cond.code yX11_auction cX11_auction 3 (some .int) : Cond) ∈ lw_tbl := tI_4 _ (List.mem_of_getElem? (i := 154) rfl)
theorem wsL_law_r15_in : ∀ w ∈ wsL_law_r15, w ∈ lw_tbl := (List.forall_mem_cons.mpr ⟨tw_896, (List.forall_mem_cons.mpr ⟨tw_897, (List.forall_mem_cons.mpr ⟨tw_898, (List.forall_mem_cons.mpr ⟨tw_899, (List.forall_mem_cons.mpr ⟨tw_682, (List.forall_mem_cons.mpr ⟨tw_366, (List.forall_mem_cons.mpr ⟨tw_367, (List.forall_mem_cons.mpr ⟨tw_368, (List.forall_mem_cons.mpr ⟨tw_369, (List.forall_mem_cons.mpr ⟨tw_280, (List.forall_mem_cons.mpr ⟨tw_132, (List.forall_mem_cons.mpr ⟨tw_370, (List.forall_mem_cons.mpr ⟨tw_371, (List.forall_mem_cons.mpr ⟨tw_42, (List.forall_mem_cons.mpr ⟨tw_372, (List.forall_mem_cons.mpr ⟨tw_373, (List.forall_mem_cons.mpr ⟨tw_374, (List.forall_mem_cons.mpr ⟨tw_375, (List.forall_mem_cons.mpr ⟨tw_376, (List.forall_mem_cons.mpr ⟨tw_378, (List.forall_mem_cons.mpr ⟨tw_900, (List.forall_mem_cons.mpr ⟨tw_901, (List.forall_mem_cons.mpr ⟨tw_902, (List.forall_mem_cons.mpr ⟨tw_903, (fun _ h => absurd h List.not_mem_nil)⟩)⟩)⟩)⟩)⟩)⟩)⟩)⟩)⟩)⟩)⟩)⟩)⟩)⟩)⟩)⟩)⟩)⟩)⟩)⟩)⟩)⟩)⟩)⟩)
theorem tw_904 : (Cond.constantLong RX11 191 (240) : Cond) ∈ lw_tbl := tI_4 _ (List.mem_of_getElem? (i := 155) rfl)
theorem tw_686 : (Cond.fieldLink RX11 196 "TributePitchesModel" "latest" "I" : Cond) ∈ lw_tbl := tI_3 _ (List.mem_of_getElem? (i := 177) rfl)
theorem tw_687 : (Cond.fieldLink RX11 199 "TributePitchesModel" "bids" "I" : Cond) ∈ lw_tbl := tI_3 _ (List.mem_of_getElem? (i := 178) rfl)
theorem tw_688 : (Cond.fieldLink RX11 202 "TributePitchesModel" "bidder" "I" : Cond) ∈ lw_tbl := tI_3 _ (List.mem_of_getElem? (i := 179) rfl)
theorem tw_905 : (Cond.methodLink RX11 193 yX11_takeOf : Cond) ∈ lw_tbl := tI_4 _ (List.mem_of_getElem? (i := 156) rfl)
theorem tw_907 : (Cond.instanceMethod yX11_takeOf : Cond) ∈ lw_tbl := tI_4 _ (List.mem_of_getElem? (i := 158) rfl)
theorem tw_19 : (Cond.selects RX11 yX11_takeOf yX11_takeOf : Cond) ∈ lw_tbl := tI_0 _ (List.mem_of_getElem? (i := 19) rfl)
theorem tw_908 : (Cond.code yX11_takeOf cX11_takeOf 3 (some .int) : Cond) ∈ lw_tbl := tI_4 _ (List.mem_of_getElem? (i := 159) rfl)
theorem tw_689 : (Cond.fieldLink RX11 188 "TributePitchesModel" "takes" "I" : Cond) ∈ lw_tbl := tI_3 _ (List.mem_of_getElem? (i := 180) rfl)
theorem tw_392 : (Cond.methodLink RL 51 yX10_bid : Cond) ∈ lw_tbl := tI_2 _ (List.mem_of_getElem? (i := 123) rfl)
theorem tw_393 : (Cond.instanceMethod yX10_bid : Cond) ∈ lw_tbl := tI_2 _ (List.mem_of_getElem? (i := 124) rfl)
theorem tw_394 : (Cond.selects RX10 yX10_bid yX10_bid : Cond) ∈ lw_tbl := tI_2 _ (List.mem_of_getElem? (i := 125) rfl)
theorem tw_395 : (Cond.code yX10_bid cX10_bid 4 (some .int) : Cond) ∈ lw_tbl := tI_2 _ (List.mem_of_getElem? (i := 126) rfl)
theorem tw_382 : (Cond.fieldLink RX10 180 "TributePitches$Auction" "bidder" "LTributePitches$Gang;" : Cond) ∈ lw_tbl := tI_2 _ (List.mem_of_getElem? (i := 113) rfl)
theorem tw_336 : (Cond.fieldLink RX10 184 "TributePitches$Gang" "letPitches" "I" : Cond) ∈ lw_tbl := tI_2 _ (List.mem_of_getElem? (i := 67) rfl)
theorem tw_381 : (Cond.fieldLink RX10 187 "TributePitches$Auction" "bids" "I" : Cond) ∈ lw_tbl := tI_2 _ (List.mem_of_getElem? (i := 112) rfl)
theorem tw_379 : (Cond.fieldLink RX10 190 "TributePitches$Auction" "share" "I" : Cond) ∈ lw_tbl := tI_2 _ (List.mem_of_getElem? (i := 110) rfl)
theorem tw_396 : (Cond.methodLink RX10 172 yX10_gangAt : Cond) ∈ lw_tbl := tI_2 _ (List.mem_of_getElem? (i := 127) rfl)
theorem tw_398 : (Cond.instanceMethod yX10_gangAt : Cond) ∈ lw_tbl := tI_2 _ (List.mem_of_getElem? (i := 129) rfl)
theorem tw_6 : (Cond.selects RX10 yX10_gangAt yX10_gangAt : Cond) ∈ lw_tbl := tI_0 _ (List.mem_of_getElem? (i := 6) rfl)
theorem tw_399 : (Cond.code yX10_gangAt cX10_gangAt 2 (some (.object "TributePitches$Gang")) : Cond) ∈ lw_tbl := tI_2 _ (List.mem_of_getElem? (i := 130) rfl)
theorem tw_400 : (Cond.methodLink RX10 176 yX0_mostShare : Cond) ∈ lw_tbl := tI_2 _ (List.mem_of_getElem? (i := 131) rfl)
theorem tw_401 : (Cond.instanceMethod yX0_mostShare : Cond) ∈ lw_tbl := tI_2 _ (List.mem_of_getElem? (i := 132) rfl)
theorem tw_402 : (Cond.selects RX0 yX0_mostShare yX0_mostShare : Cond) ∈ lw_tbl := tI_2 _ (List.mem_of_getElem? (i := 133) rfl)
theorem wsL_law_r16_in : ∀ w ∈ wsL_law_r16, w ∈ lw_tbl := (List.forall_mem_cons.mpr ⟨tw_904, (List.forall_mem_cons.mpr ⟨tw_686, (List.forall_mem_cons.mpr ⟨tw_687, (List.forall_mem_cons.mpr ⟨tw_688, (List.forall_mem_cons.mpr ⟨tw_905, (List.forall_mem_cons.mpr ⟨tw_907, (List.forall_mem_cons.mpr ⟨tw_19, (List.forall_mem_cons.mpr ⟨tw_908, (List.forall_mem_cons.mpr ⟨tw_689, (List.forall_mem_cons.mpr ⟨tw_392, (List.forall_mem_cons.mpr ⟨tw_393, (List.forall_mem_cons.mpr ⟨tw_394, (List.forall_mem_cons.mpr ⟨tw_395, (List.forall_mem_cons.mpr ⟨tw_382, (List.forall_mem_cons.mpr ⟨tw_336, (List.forall_mem_cons.mpr ⟨tw_381, (List.forall_mem_cons.mpr ⟨tw_379, (List.forall_mem_cons.mpr ⟨tw_396, (List.forall_mem_cons.mpr ⟨tw_398, (List.forall_mem_cons.mpr ⟨tw_6, (List.forall_mem_cons.mpr ⟨tw_399, (List.forall_mem_cons.mpr ⟨tw_400, (List.forall_mem_cons.mpr ⟨tw_401, (List.forall_mem_cons.mpr ⟨tw_402, (fun _ h => absurd h List.not_mem_nil)⟩)⟩)⟩)⟩)⟩)⟩)⟩)⟩)⟩)⟩)⟩)⟩)⟩)⟩)⟩)⟩)⟩)⟩)⟩)⟩)⟩)⟩)⟩)⟩)
theorem tw_403 : (Cond.code yX0_mostShare cX0_mostShare 1 (some .int) : Cond) ∈ lw_tbl := tI_2 _ (List.mem_of_getElem? (i := 134) rfl)
theorem tw_380 : (Cond.fieldLink RX0 17 "TributePitches$Auction" "bids" "I" : Cond) ∈ lw_tbl := tI_2 _ (List.mem_of_getElem? (i := 111) rfl)
theorem tw_909 : (Cond.methodLink RL 54 yX11_bid : Cond) ∈ lw_tbl := tI_4 _ (List.mem_of_getElem? (i := 160) rfl)
theorem tw_910 : (Cond.instanceMethod yX11_bid : Cond) ∈ lw_tbl := tI_4 _ (List.mem_of_getElem? (i := 161) rfl)
theorem tw_911 : (Cond.selects RX11 yX11_bid yX11_bid : Cond) ∈ lw_tbl := tI_4 _ (List.mem_of_getElem? (i := 162) rfl)
theorem tw_912 : (Cond.code yX11_bid cX11_bid 3 (some .int) : Cond) ∈ lw_tbl := tI_4 _ (List.mem_of_getElem? (i := 163) rfl)
theorem tw_913 : (Cond.methodLink RX11 205 yX11_noGang : Cond) ∈ lw_tbl := tI_4 _ (List.mem_of_getElem? (i := 164) rfl)
theorem tw_915 : (Cond.instanceMethod yX11_noGang : Cond) ∈ lw_tbl := tI_4 _ (List.mem_of_getElem? (i := 166) rfl)
theorem tw_20 : (Cond.selects RX11 yX11_noGang yX11_noGang : Cond) ∈ lw_tbl := tI_0 _ (List.mem_of_getElem? (i := 20) rfl)
theorem tw_916 : (Cond.code yX11_noGang cX11_noGang 2 (some .boolean) : Cond) ∈ lw_tbl := tI_4 _ (List.mem_of_getElem? (i := 167) rfl)
theorem tw_917 : (Cond.methodLink RX11 208 yX11_letTo : Cond) ∈ lw_tbl := tI_4 _ (List.mem_of_getElem? (i := 168) rfl)
theorem tw_919 : (Cond.instanceMethod yX11_letTo : Cond) ∈ lw_tbl := tI_4 _ (List.mem_of_getElem? (i := 170) rfl)
theorem tw_21 : (Cond.selects RX11 yX11_letTo yX11_letTo : Cond) ∈ lw_tbl := tI_0 _ (List.mem_of_getElem? (i := 21) rfl)
theorem tw_920 : (Cond.code yX11_letTo cX11_letTo 4 (some .int) : Cond) ∈ lw_tbl := tI_4 _ (List.mem_of_getElem? (i := 171) rfl)
theorem tw_404 : (Cond.methodLink RL 55 yX10_strike : Cond) ∈ lw_tbl := tI_2 _ (List.mem_of_getElem? (i := 135) rfl)
theorem tw_405 : (Cond.instanceMethod yX10_strike : Cond) ∈ lw_tbl := tI_2 _ (List.mem_of_getElem? (i := 136) rfl)
theorem tw_406 : (Cond.selects RX10 yX10_strike yX10_strike : Cond) ∈ lw_tbl := tI_2 _ (List.mem_of_getElem? (i := 137) rfl)
theorem tw_407 : (Cond.code yX10_strike cX10_strike 4 (some .int) : Cond) ∈ lw_tbl := tI_2 _ (List.mem_of_getElem? (i := 138) rfl)
theorem tw_377 : (Cond.fieldLink RX10 193 "TributePitches$Auction" "pitch" "LTributePitches$Pitch;" : Cond) ∈ lw_tbl := tI_2 _ (List.mem_of_getElem? (i := 108) rfl)
theorem tw_130 : (Cond.fieldLink RX10 197 "TributePitches" "takeCount" "I" : Cond) ∈ lw_tbl := tI_1 _ (List.mem_of_getElem? (i := 101) rfl)
theorem tw_408 : (Cond.instantiable RX8 12 : Cond) ∈ lw_tbl := tI_2 _ (List.mem_of_getElem? (i := 139) rfl)
theorem tw_43 : (Cond.initialized RX8 : Cond) ∈ lw_tbl := tI_1 _ (List.mem_of_getElem? (i := 14) rfl)
theorem tw_421 : (Cond.fieldLink RX10 203 "TributePitches$Take" "least" "J" : Cond) ∈ lw_tbl := tI_2 _ (List.mem_of_getElem? (i := 152) rfl)
theorem tw_422 : (Cond.fieldLink RX10 207 "TributePitches$Take" "greatest" "J" : Cond) ∈ lw_tbl := tI_2 _ (List.mem_of_getElem? (i := 153) rfl)
theorem wsL_law_r17_in : ∀ w ∈ wsL_law_r17, w ∈ lw_tbl := (List.forall_mem_cons.mpr ⟨tw_403, (List.forall_mem_cons.mpr ⟨tw_380, (List.forall_mem_cons.mpr ⟨tw_909, (List.forall_mem_cons.mpr ⟨tw_910, (List.forall_mem_cons.mpr ⟨tw_911, (List.forall_mem_cons.mpr ⟨tw_912, (List.forall_mem_cons.mpr ⟨tw_913, (List.forall_mem_cons.mpr ⟨tw_915, (List.forall_mem_cons.mpr ⟨tw_20, (List.forall_mem_cons.mpr ⟨tw_916, (List.forall_mem_cons.mpr ⟨tw_917, (List.forall_mem_cons.mpr ⟨tw_919, (List.forall_mem_cons.mpr ⟨tw_21, (List.forall_mem_cons.mpr ⟨tw_920, (List.forall_mem_cons.mpr ⟨tw_404, (List.forall_mem_cons.mpr ⟨tw_405, (List.forall_mem_cons.mpr ⟨tw_406, (List.forall_mem_cons.mpr ⟨tw_407, (List.forall_mem_cons.mpr ⟨tw_377, (List.forall_mem_cons.mpr ⟨tw_130, (List.forall_mem_cons.mpr ⟨tw_408, (List.forall_mem_cons.mpr ⟨tw_43, (List.forall_mem_cons.mpr ⟨tw_421, (List.forall_mem_cons.mpr ⟨tw_422, (fun _ h => absurd h List.not_mem_nil)⟩)⟩)⟩)⟩)⟩)⟩)⟩)⟩)⟩)⟩)⟩)⟩)⟩)⟩)⟩)⟩)⟩)⟩)⟩)⟩)⟩)⟩)⟩)⟩)
theorem tw_409 : (Cond.methodLink RX10 200 yX8_init : Cond) ∈ lw_tbl := tI_2 _ (List.mem_of_getElem? (i := 140) rfl)
theorem tw_410 : (Cond.instanceMethod yX8_init : Cond) ∈ lw_tbl := tI_2 _ (List.mem_of_getElem? (i := 141) rfl)
theorem tw_411 : (Cond.code yX8_init cX8_init 5 none : Cond) ∈ lw_tbl := tI_2 _ (List.mem_of_getElem? (i := 142) rfl)
theorem tw_412 : (Cond.methodLink RX8 3 objectInit : Cond) ∈ lw_tbl := tI_2 _ (List.mem_of_getElem? (i := 143) rfl)
theorem tw_413 : (Cond.fieldLink RX8 9 "TributePitches$Take" "number" "I" : Cond) ∈ lw_tbl := tI_2 _ (List.mem_of_getElem? (i := 144) rfl)
theorem tw_417 : (Cond.fieldLink RX8 15 "TributePitches$Take" "gang" "LTributePitches$Gang;" : Cond) ∈ lw_tbl := tI_2 _ (List.mem_of_getElem? (i := 148) rfl)
theorem tw_419 : (Cond.fieldLink RX8 19 "TributePitches$Take" "pitch" "LTributePitches$Pitch;" : Cond) ∈ lw_tbl := tI_2 _ (List.mem_of_getElem? (i := 150) rfl)
theorem tw_415 : (Cond.fieldLink RX8 23 "TributePitches$Take" "share" "I" : Cond) ∈ lw_tbl := tI_2 _ (List.mem_of_getElem? (i := 146) rfl)
theorem tw_459 : (Cond.methodLink RX10 210 yX8_begin : Cond) ∈ lw_tbl := tI_2 _ (List.mem_of_getElem? (i := 190) rfl)
theorem tw_460 : (Cond.instanceMethod yX8_begin : Cond) ∈ lw_tbl := tI_2 _ (List.mem_of_getElem? (i := 191) rfl)
theorem tw_461 : (Cond.selects RX8 yX8_begin yX8_begin : Cond) ∈ lw_tbl := tI_2 _ (List.mem_of_getElem? (i := 192) rfl)
theorem tw_462 : (Cond.code yX8_begin cX8_begin 1 none : Cond) ∈ lw_tbl := tI_2 _ (List.mem_of_getElem? (i := 193) rfl)
theorem tw_279 : (Cond.fieldLink RX8 26 "TributePitches$Pitch" "take" "LTributePitches$Take;" : Cond) ∈ lw_tbl := tI_2 _ (List.mem_of_getElem? (i := 10) rfl)
theorem tw_277 : (Cond.fieldLink RX8 32 "TributePitches$Pitch" "takesHad" "I" : Cond) ∈ lw_tbl := tI_2 _ (List.mem_of_getElem? (i := 8) rfl)
theorem tw_333 : (Cond.fieldLink RX8 35 "TributePitches$Gang" "takesHad" "I" : Cond) ∈ lw_tbl := tI_2 _ (List.mem_of_getElem? (i := 64) rfl)
theorem tw_335 : (Cond.fieldLink RX8 38 "TributePitches$Gang" "letPitches" "I" : Cond) ∈ lw_tbl := tI_2 _ (List.mem_of_getElem? (i := 66) rfl)
theorem tw_921 : (Cond.methodLink RL 59 yX11_strike : Cond) ∈ lw_tbl := tI_4 _ (List.mem_of_getElem? (i := 172) rfl)
theorem tw_922 : (Cond.instanceMethod yX11_strike : Cond) ∈ lw_tbl := tI_4 _ (List.mem_of_getElem? (i := 173) rfl)
theorem tw_923 : (Cond.selects RX11 yX11_strike yX11_strike : Cond) ∈ lw_tbl := tI_4 _ (List.mem_of_getElem? (i := 174) rfl)
theorem tw_924 : (Cond.code yX11_strike cX11_strike 1 (some .int) : Cond) ∈ lw_tbl := tI_4 _ (List.mem_of_getElem? (i := 175) rfl)
theorem tw_463 : (Cond.methodLink RL 60 yX10_about : Cond) ∈ lw_tbl := tI_2 _ (List.mem_of_getElem? (i := 194) rfl)
theorem tw_464 : (Cond.instanceMethod yX10_about : Cond) ∈ lw_tbl := tI_2 _ (List.mem_of_getElem? (i := 195) rfl)
theorem tw_465 : (Cond.selects RX10 yX10_about yX10_about : Cond) ∈ lw_tbl := tI_2 _ (List.mem_of_getElem? (i := 196) rfl)
theorem tw_466 : (Cond.code yX10_about cX10_about 4 (some .int) : Cond) ∈ lw_tbl := tI_2 _ (List.mem_of_getElem? (i := 197) rfl)
theorem wsL_law_r18_in : ∀ w ∈ wsL_law_r18, w ∈ lw_tbl := (List.forall_mem_cons.mpr ⟨tw_409, (List.forall_mem_cons.mpr ⟨tw_410, (List.forall_mem_cons.mpr ⟨tw_411, (List.forall_mem_cons.mpr ⟨tw_412, (List.forall_mem_cons.mpr ⟨tw_413, (List.forall_mem_cons.mpr ⟨tw_417, (List.forall_mem_cons.mpr ⟨tw_419, (List.forall_mem_cons.mpr ⟨tw_415, (List.forall_mem_cons.mpr ⟨tw_459, (List.forall_mem_cons.mpr ⟨tw_460, (List.forall_mem_cons.mpr ⟨tw_461, (List.forall_mem_cons.mpr ⟨tw_462, (List.forall_mem_cons.mpr ⟨tw_279, (List.forall_mem_cons.mpr ⟨tw_277, (List.forall_mem_cons.mpr ⟨tw_333, (List.forall_mem_cons.mpr ⟨tw_335, (List.forall_mem_cons.mpr ⟨tw_921, (List.forall_mem_cons.mpr ⟨tw_922, (List.forall_mem_cons.mpr ⟨tw_923, (List.forall_mem_cons.mpr ⟨tw_924, (List.forall_mem_cons.mpr ⟨tw_463, (List.forall_mem_cons.mpr ⟨tw_464, (List.forall_mem_cons.mpr ⟨tw_465, (List.forall_mem_cons.mpr ⟨tw_466, (fun _ h => absurd h List.not_mem_nil)⟩)⟩)⟩)⟩)⟩)⟩)⟩)⟩)⟩)⟩)⟩)⟩)⟩)⟩)⟩)⟩)⟩)⟩)⟩)⟩)⟩)⟩)⟩)⟩)
theorem tw_268 : (Cond.fieldLink RX10 213 "TributePitches$Pitch" "x" "I" : Cond) ∈ lw_tbl := tI_1 _ (List.mem_of_getElem? (i := 239) rfl)
theorem tw_270 : (Cond.fieldLink RX10 216 "TributePitches$Pitch" "y" "I" : Cond) ∈ lw_tbl := tI_2 _ (List.mem_of_getElem? (i := 1) rfl)
theorem tw_272 : (Cond.fieldLink RX10 219 "TributePitches$Pitch" "x2" "I" : Cond) ∈ lw_tbl := tI_2 _ (List.mem_of_getElem? (i := 3) rfl)
theorem tw_274 : (Cond.fieldLink RX10 222 "TributePitches$Pitch" "y2" "I" : Cond) ∈ lw_tbl := tI_2 _ (List.mem_of_getElem? (i := 5) rfl)
theorem tw_276 : (Cond.fieldLink RX10 225 "TributePitches$Pitch" "tons" "I" : Cond) ∈ lw_tbl := tI_2 _ (List.mem_of_getElem? (i := 7) rfl)
theorem tw_414 : (Cond.fieldLink RX10 228 "TributePitches$Take" "number" "I" : Cond) ∈ lw_tbl := tI_2 _ (List.mem_of_getElem? (i := 145) rfl)
theorem tw_278 : (Cond.fieldLink RX10 231 "TributePitches$Pitch" "takesHad" "I" : Cond) ∈ lw_tbl := tI_2 _ (List.mem_of_getElem? (i := 9) rfl)
theorem tw_925 : (Cond.methodLink RL 63 yX11_about : Cond) ∈ lw_tbl := tI_4 _ (List.mem_of_getElem? (i := 176) rfl)
theorem tw_926 : (Cond.instanceMethod yX11_about : Cond) ∈ lw_tbl := tI_4 _ (List.mem_of_getElem? (i := 177) rfl)
theorem tw_927 : (Cond.selects RX11 yX11_about yX11_about : Cond) ∈ lw_tbl := tI_4 _ (List.mem_of_getElem? (i := 178) rfl)
theorem tw_928 : (Cond.code yX11_about cX11_about 3 (some .int) : Cond) ∈ lw_tbl := tI_4 _ (List.mem_of_getElem? (i := 179) rfl)
theorem tw_929 : (Cond.methodLink RX11 211 yX11_takesOn : Cond) ∈ lw_tbl := tI_4 _ (List.mem_of_getElem? (i := 180) rfl)
theorem tw_931 : (Cond.instanceMethod yX11_takesOn : Cond) ∈ lw_tbl := tI_4 _ (List.mem_of_getElem? (i := 182) rfl)
theorem tw_22 : (Cond.selects RX11 yX11_takesOn yX11_takesOn : Cond) ∈ lw_tbl := tI_0 _ (List.mem_of_getElem? (i := 22) rfl)
theorem tw_932 : (Cond.code yX11_takesOn cX11_takesOn 4 (some .int) : Cond) ∈ lw_tbl := tI_4 _ (List.mem_of_getElem? (i := 183) rfl)
theorem tw_467 : (Cond.methodLink RL 64 yX10_parcel : Cond) ∈ lw_tbl := tI_2 _ (List.mem_of_getElem? (i := 198) rfl)
theorem tw_468 : (Cond.instanceMethod yX10_parcel : Cond) ∈ lw_tbl := tI_2 _ (List.mem_of_getElem? (i := 199) rfl)
theorem tw_469 : (Cond.selects RX10 yX10_parcel yX10_parcel : Cond) ∈ lw_tbl := tI_2 _ (List.mem_of_getElem? (i := 200) rfl)
theorem tw_470 : (Cond.code yX10_parcel cX10_parcel 5 (some .int) : Cond) ∈ lw_tbl := tI_2 _ (List.mem_of_getElem? (i := 201) rfl)
theorem tw_433 : (Cond.fieldLink RX10 238 "TributePitches$Take" "settled" "Z" : Cond) ∈ lw_tbl := tI_2 _ (List.mem_of_getElem? (i := 164) rfl)
theorem tw_131 : (Cond.fieldLink RX10 242 "TributePitches" "parcelCount" "I" : Cond) ∈ lw_tbl := tI_1 _ (List.mem_of_getElem? (i := 102) rfl)
theorem tw_475 : (Cond.instantiable RX5 2 : Cond) ∈ lw_tbl := tI_2 _ (List.mem_of_getElem? (i := 206) rfl)
theorem tw_44 : (Cond.initialized RX5 : Cond) ∈ lw_tbl := tI_1 _ (List.mem_of_getElem? (i := 15) rfl)
theorem tw_420 : (Cond.fieldLink RX10 245 "TributePitches$Take" "pitch" "LTributePitches$Pitch;" : Cond) ∈ lw_tbl := tI_2 _ (List.mem_of_getElem? (i := 151) rfl)
theorem wsL_law_r19_in : ∀ w ∈ wsL_law_r19, w ∈ lw_tbl := (List.forall_mem_cons.mpr ⟨tw_268, (List.forall_mem_cons.mpr ⟨tw_270, (List.forall_mem_cons.mpr ⟨tw_272, (List.forall_mem_cons.mpr ⟨tw_274, (List.forall_mem_cons.mpr ⟨tw_276, (List.forall_mem_cons.mpr ⟨tw_414, (List.forall_mem_cons.mpr ⟨tw_278, (List.forall_mem_cons.mpr ⟨tw_925, (List.forall_mem_cons.mpr ⟨tw_926, (List.forall_mem_cons.mpr ⟨tw_927, (List.forall_mem_cons.mpr ⟨tw_928, (List.forall_mem_cons.mpr ⟨tw_929, (List.forall_mem_cons.mpr ⟨tw_931, (List.forall_mem_cons.mpr ⟨tw_22, (List.forall_mem_cons.mpr ⟨tw_932, (List.forall_mem_cons.mpr ⟨tw_467, (List.forall_mem_cons.mpr ⟨tw_468, (List.forall_mem_cons.mpr ⟨tw_469, (List.forall_mem_cons.mpr ⟨tw_470, (List.forall_mem_cons.mpr ⟨tw_433, (List.forall_mem_cons.mpr ⟨tw_131, (List.forall_mem_cons.mpr ⟨tw_475, (List.forall_mem_cons.mpr ⟨tw_44, (List.forall_mem_cons.mpr ⟨tw_420, (fun _ h => absurd h List.not_mem_nil)⟩)⟩)⟩)⟩)⟩)⟩)⟩)⟩)⟩)⟩)⟩)⟩)⟩)⟩)⟩)⟩)⟩)⟩)⟩)⟩)⟩)⟩)⟩)⟩)
theorem tw_431 : (Cond.fieldLink RX10 247 "TributePitches$Take" "parcels" "I" : Cond) ∈ lw_tbl := tI_2 _ (List.mem_of_getElem? (i := 162) rfl)
theorem tw_424 : (Cond.fieldLink RX10 249 "TributePitches$Take" "worths" "J" : Cond) ∈ lw_tbl := tI_2 _ (List.mem_of_getElem? (i := 155) rfl)
theorem tw_471 : (Cond.methodLink RX10 234 yX10_takeAt : Cond) ∈ lw_tbl := tI_2 _ (List.mem_of_getElem? (i := 202) rfl)
theorem tw_473 : (Cond.instanceMethod yX10_takeAt : Cond) ∈ lw_tbl := tI_2 _ (List.mem_of_getElem? (i := 204) rfl)
theorem tw_7 : (Cond.selects RX10 yX10_takeAt yX10_takeAt : Cond) ∈ lw_tbl := tI_0 _ (List.mem_of_getElem? (i := 7) rfl)
theorem tw_474 : (Cond.code yX10_takeAt cX10_takeAt 2 (some (.object "TributePitches$Take")) : Cond) ∈ lw_tbl := tI_2 _ (List.mem_of_getElem? (i := 205) rfl)
theorem tw_476 : (Cond.methodLink RX10 246 yX5_init : Cond) ∈ lw_tbl := tI_2 _ (List.mem_of_getElem? (i := 207) rfl)
theorem tw_477 : (Cond.instanceMethod yX5_init : Cond) ∈ lw_tbl := tI_2 _ (List.mem_of_getElem? (i := 208) rfl)
theorem tw_478 : (Cond.code yX5_init cX5_init 3 none : Cond) ∈ lw_tbl := tI_2 _ (List.mem_of_getElem? (i := 209) rfl)
theorem tw_479 : (Cond.methodLink RX5 1 objectInit : Cond) ∈ lw_tbl := tI_2 _ (List.mem_of_getElem? (i := 210) rfl)
theorem tw_480 : (Cond.fieldLink RX5 7 "TributePitches$Parcel" "pitch" "LTributePitches$Pitch;" : Cond) ∈ lw_tbl := tI_2 _ (List.mem_of_getElem? (i := 211) rfl)
theorem tw_481 : (Cond.fieldLink RX5 13 "TributePitches$Parcel" "goodness" "I" : Cond) ∈ lw_tbl := tI_2 _ (List.mem_of_getElem? (i := 212) rfl)
theorem tw_933 : (Cond.methodLink RL 67 yX11_parcel : Cond) ∈ lw_tbl := tI_4 _ (List.mem_of_getElem? (i := 184) rfl)
theorem tw_934 : (Cond.instanceMethod yX11_parcel : Cond) ∈ lw_tbl := tI_4 _ (List.mem_of_getElem? (i := 185) rfl)
theorem tw_935 : (Cond.selects RX11 yX11_parcel yX11_parcel : Cond) ∈ lw_tbl := tI_4 _ (List.mem_of_getElem? (i := 186) rfl)
theorem tw_936 : (Cond.code yX11_parcel cX11_parcel 4 (some .int) : Cond) ∈ lw_tbl := tI_4 _ (List.mem_of_getElem? (i := 187) rfl)
theorem tw_699 : (Cond.fieldLink RX11 217 "TributePitchesModel" "parcels" "I" : Cond) ∈ lw_tbl := tI_3 _ (List.mem_of_getElem? (i := 190) rfl)
theorem tw_937 : (Cond.methodLink RX11 214 yX11_noTake : Cond) ∈ lw_tbl := tI_4 _ (List.mem_of_getElem? (i := 188) rfl)
theorem tw_939 : (Cond.instanceMethod yX11_noTake : Cond) ∈ lw_tbl := tI_4 _ (List.mem_of_getElem? (i := 190) rfl)
theorem tw_23 : (Cond.selects RX11 yX11_noTake yX11_noTake : Cond) ∈ lw_tbl := tI_0 _ (List.mem_of_getElem? (i := 23) rfl)
theorem tw_940 : (Cond.code yX11_noTake cX11_noTake 2 (some .boolean) : Cond) ∈ lw_tbl := tI_4 _ (List.mem_of_getElem? (i := 191) rfl)
theorem tw_487 : (Cond.methodLink RL 68 yX10_spend : Cond) ∈ lw_tbl := tI_2 _ (List.mem_of_getElem? (i := 218) rfl)
theorem tw_488 : (Cond.instanceMethod yX10_spend : Cond) ∈ lw_tbl := tI_2 _ (List.mem_of_getElem? (i := 219) rfl)
theorem tw_489 : (Cond.selects RX10 yX10_spend yX10_spend : Cond) ∈ lw_tbl := tI_2 _ (List.mem_of_getElem? (i := 220) rfl)
theorem wsL_law_r20_in : ∀ w ∈ wsL_law_r20, w ∈ lw_tbl := (List.forall_mem_cons.mpr ⟨tw_431, (List.forall_mem_cons.mpr ⟨tw_424, (List.forall_mem_cons.mpr ⟨tw_471, (List.forall_mem_cons.mpr ⟨tw_473, (List.forall_mem_cons.mpr ⟨tw_7, (List.forall_mem_cons.mpr ⟨tw_474, (List.forall_mem_cons.mpr ⟨tw_476, (List.forall_mem_cons.mpr ⟨tw_477, (List.forall_mem_cons.mpr ⟨tw_478, (List.forall_mem_cons.mpr ⟨tw_479, (List.forall_mem_cons.mpr ⟨tw_480, (List.forall_mem_cons.mpr ⟨tw_481, (List.forall_mem_cons.mpr ⟨tw_933, (List.forall_mem_cons.mpr ⟨tw_934, (List.forall_mem_cons.mpr ⟨tw_935, (List.forall_mem_cons.mpr ⟨tw_936, (List.forall_mem_cons.mpr ⟨tw_699, (List.forall_mem_cons.mpr ⟨tw_937, (List.forall_mem_cons.mpr ⟨tw_939, (List.forall_mem_cons.mpr ⟨tw_23, (List.forall_mem_cons.mpr ⟨tw_940, (List.forall_mem_cons.mpr ⟨tw_487, (List.forall_mem_cons.mpr ⟨tw_488, (List.forall_mem_cons.mpr ⟨tw_489, (fun _ h => absurd h List.not_mem_nil)⟩)⟩)⟩)⟩)⟩)⟩)⟩)⟩)⟩)⟩)⟩)⟩)⟩)⟩)⟩)⟩)⟩)⟩)⟩)⟩)⟩)⟩)⟩)⟩)
theorem tw_490 : (Cond.code yX10_spend cX10_spend 5 (some .long) : Cond) ∈ lw_tbl := tI_2 _ (List.mem_of_getElem? (i := 221) rfl)
theorem tw_491 : (Cond.constant RX10 252 (100000) : Cond) ∈ lw_tbl := tI_2 _ (List.mem_of_getElem? (i := 222) rfl)
theorem tw_426 : (Cond.fieldLink RX10 253 "TributePitches$Take" "costs" "J" : Cond) ∈ lw_tbl := tI_2 _ (List.mem_of_getElem? (i := 157) rfl)
theorem tw_428 : (Cond.fieldLink RX10 256 "TributePitches$Take" "ahead" "J" : Cond) ∈ lw_tbl := tI_2 _ (List.mem_of_getElem? (i := 159) rfl)
theorem tw_941 : (Cond.methodLink RL 72 yX11_spend : Cond) ∈ lw_tbl := tI_4 _ (List.mem_of_getElem? (i := 192) rfl)
theorem tw_942 : (Cond.instanceMethod yX11_spend : Cond) ∈ lw_tbl := tI_4 _ (List.mem_of_getElem? (i := 193) rfl)
theorem tw_943 : (Cond.selects RX11 yX11_spend yX11_spend : Cond) ∈ lw_tbl := tI_4 _ (List.mem_of_getElem? (i := 194) rfl)
theorem tw_944 : (Cond.code yX11_spend cX11_spend 4 (some .long) : Cond) ∈ lw_tbl := tI_4 _ (List.mem_of_getElem? (i := 195) rfl)
theorem tw_945 : (Cond.constantLong RX11 220 (100000) : Cond) ∈ lw_tbl := tI_4 _ (List.mem_of_getElem? (i := 196) rfl)
theorem tw_492 : (Cond.methodLink RL 73 yX10_settle : Cond) ∈ lw_tbl := tI_2 _ (List.mem_of_getElem? (i := 223) rfl)
theorem tw_493 : (Cond.instanceMethod yX10_settle : Cond) ∈ lw_tbl := tI_2 _ (List.mem_of_getElem? (i := 224) rfl)
theorem tw_494 : (Cond.selects RX10 yX10_settle yX10_settle : Cond) ∈ lw_tbl := tI_2 _ (List.mem_of_getElem? (i := 225) rfl)
theorem tw_495 : (Cond.code yX10_settle cX10_settle 3 (some .long) : Cond) ∈ lw_tbl := tI_2 _ (List.mem_of_getElem? (i := 226) rfl)
theorem tw_430 : (Cond.fieldLink RX10 262 "TributePitches$Take" "pay" "J" : Cond) ∈ lw_tbl := tI_2 _ (List.mem_of_getElem? (i := 161) rfl)
theorem tw_496 : (Cond.methodLink RX10 259 yX8_end : Cond) ∈ lw_tbl := tI_2 _ (List.mem_of_getElem? (i := 227) rfl)
theorem tw_497 : (Cond.instanceMethod yX8_end : Cond) ∈ lw_tbl := tI_2 _ (List.mem_of_getElem? (i := 228) rfl)
theorem tw_498 : (Cond.selects RX8 yX8_end yX8_end : Cond) ∈ lw_tbl := tI_2 _ (List.mem_of_getElem? (i := 229) rfl)
theorem tw_499 : (Cond.code yX8_end cX8_end 5 none : Cond) ∈ lw_tbl := tI_2 _ (List.mem_of_getElem? (i := 230) rfl)
theorem tw_423 : (Cond.fieldLink RX8 45 "TributePitches$Take" "worths" "J" : Cond) ∈ lw_tbl := tI_2 _ (List.mem_of_getElem? (i := 154) rfl)
theorem tw_510 : (Cond.constantLong RX8 49 (240) : Cond) ∈ lw_tbl := tI_3 _ (List.mem_of_getElem? (i := 1) rfl)
theorem tw_425 : (Cond.fieldLink RX8 51 "TributePitches$Take" "costs" "J" : Cond) ∈ lw_tbl := tI_2 _ (List.mem_of_getElem? (i := 156) rfl)
theorem tw_427 : (Cond.fieldLink RX8 58 "TributePitches$Take" "ahead" "J" : Cond) ∈ lw_tbl := tI_2 _ (List.mem_of_getElem? (i := 158) rfl)
theorem tw_521 : (Cond.methodLink RX8 61 Lib.MathLoose.max_long.x : Cond) ∈ lw_tbl := tI_3 _ (List.mem_of_getElem? (i := 12) rfl)
theorem tw_522 : (Cond.static Lib.MathLoose.max_long.x : Cond) ∈ lw_tbl := tI_3 _ (List.mem_of_getElem? (i := 13) rfl)
theorem wsL_law_r21_in : ∀ w ∈ wsL_law_r21, w ∈ lw_tbl := (List.forall_mem_cons.mpr ⟨tw_490, (List.forall_mem_cons.mpr ⟨tw_491, (List.forall_mem_cons.mpr ⟨tw_426, (List.forall_mem_cons.mpr ⟨tw_428, (List.forall_mem_cons.mpr ⟨tw_941, (List.forall_mem_cons.mpr ⟨tw_942, (List.forall_mem_cons.mpr ⟨tw_943, (List.forall_mem_cons.mpr ⟨tw_944, (List.forall_mem_cons.mpr ⟨tw_945, (List.forall_mem_cons.mpr ⟨tw_492, (List.forall_mem_cons.mpr ⟨tw_493, (List.forall_mem_cons.mpr ⟨tw_494, (List.forall_mem_cons.mpr ⟨tw_495, (List.forall_mem_cons.mpr ⟨tw_430, (List.forall_mem_cons.mpr ⟨tw_496, (List.forall_mem_cons.mpr ⟨tw_497, (List.forall_mem_cons.mpr ⟨tw_498, (List.forall_mem_cons.mpr ⟨tw_499, (List.forall_mem_cons.mpr ⟨tw_423, (List.forall_mem_cons.mpr ⟨tw_510, (List.forall_mem_cons.mpr ⟨tw_425, (List.forall_mem_cons.mpr ⟨tw_427, (List.forall_mem_cons.mpr ⟨tw_521, (List.forall_mem_cons.mpr ⟨tw_522, (fun _ h => absurd h List.not_mem_nil)⟩)⟩)⟩)⟩)⟩)⟩)⟩)⟩)⟩)⟩)⟩)⟩)⟩)⟩)⟩)⟩)⟩)⟩)⟩)⟩)⟩)⟩)⟩)⟩)
theorem tw_523 : (Cond.code Lib.MathLoose.max_long.x Lib.MathLoose.max_long.code 4 (some .long) : Cond) ∈ lw_tbl := tI_3 _ (List.mem_of_getElem? (i := 14) rfl)
theorem tw_429 : (Cond.fieldLink RX8 67 "TributePitches$Take" "pay" "J" : Cond) ∈ lw_tbl := tI_2 _ (List.mem_of_getElem? (i := 160) rfl)
theorem tw_340 : (Cond.fieldLink RX8 70 "TributePitches$Gang" "owed" "J" : Cond) ∈ lw_tbl := tI_2 _ (List.mem_of_getElem? (i := 71) rfl)
theorem tw_432 : (Cond.fieldLink RX8 73 "TributePitches$Take" "settled" "Z" : Cond) ∈ lw_tbl := tI_2 _ (List.mem_of_getElem? (i := 163) rfl)
theorem tw_500 : (Cond.methodLink RX8 41 ⟨"TributePitches$Gang", "debtTaken", "()J"⟩ : Cond) ∈ lw_tbl := tI_2 _ (List.mem_of_getElem? (i := 231) rfl)
theorem tw_503 : (Cond.sameMethod "TributePitches$Gang" "TributePitches$Gang" "debtTaken" "()J" : Cond) ∈ lw_tbl := tI_2 _ (List.mem_of_getElem? (i := 234) rfl)
theorem tw_504 : (Cond.selects RX1 ⟨"TributePitches$Gang", "debtTaken", "()J"⟩ yX2_debtTaken : Cond) ∈ lw_tbl := tI_2 _ (List.mem_of_getElem? (i := 235) rfl)
theorem tw_501 : (Cond.instanceMethod yX2_debtTaken : Cond) ∈ lw_tbl := tI_2 _ (List.mem_of_getElem? (i := 232) rfl)
theorem tw_509 : (Cond.code yX2_debtTaken cX2_debtTaken 1 (some .long) : Cond) ∈ lw_tbl := tI_3 _ (List.mem_of_getElem? (i := 0) rfl)
theorem tw_339 : (Cond.fieldLink RX2 15 "TributePitches$Gang" "owed" "J" : Cond) ∈ lw_tbl := tI_2 _ (List.mem_of_getElem? (i := 70) rfl)
theorem tw_502 : (Cond.selects RX2 yX2_debtTaken yX2_debtTaken : Cond) ∈ lw_tbl := tI_2 _ (List.mem_of_getElem? (i := 233) rfl)
theorem tw_505 : (Cond.selects RX4 ⟨"TributePitches$Gang", "debtTaken", "()J"⟩ yX4_debtTaken : Cond) ∈ lw_tbl := tI_2 _ (List.mem_of_getElem? (i := 236) rfl)
theorem tw_506 : (Cond.instanceMethod yX4_debtTaken : Cond) ∈ lw_tbl := tI_2 _ (List.mem_of_getElem? (i := 237) rfl)
theorem tw_507 : (Cond.code yX4_debtTaken cX4_debtTaken 1 (some .long) : Cond) ∈ lw_tbl := tI_2 _ (List.mem_of_getElem? (i := 238) rfl)
theorem tw_337 : (Cond.fieldLink RX4 7 "TributePitches$OldHands" "owed" "J" : Cond) ∈ lw_tbl := tI_2 _ (List.mem_of_getElem? (i := 68) rfl)
theorem tw_338 : (Cond.sameField "TributePitches$OldHands" "TributePitches$Gang" "owed" "J" : Cond) ∈ lw_tbl := tI_2 _ (List.mem_of_getElem? (i := 69) rfl)
theorem tw_508 : (Cond.constantLong RX4 13 (2) : Cond) ∈ lw_tbl := tI_2 _ (List.mem_of_getElem? (i := 239) rfl)
theorem tw_511 : (Cond.methodLink RX8 54 ⟨"TributePitches$Gang", "costsBorne", "(J)J"⟩ : Cond) ∈ lw_tbl := tI_3 _ (List.mem_of_getElem? (i := 2) rfl)
theorem tw_514 : (Cond.sameMethod "TributePitches$Gang" "TributePitches$Gang" "costsBorne" "(J)J" : Cond) ∈ lw_tbl := tI_3 _ (List.mem_of_getElem? (i := 5) rfl)
theorem tw_512 : (Cond.instanceMethod ⟨"TributePitches$Gang", "costsBorne", "(J)J"⟩ : Cond) ∈ lw_tbl := tI_3 _ (List.mem_of_getElem? (i := 3) rfl)
theorem tw_515 : (Cond.selects RX1 ⟨"TributePitches$Gang", "costsBorne", "(J)J"⟩ yX1_costsBorne : Cond) ∈ lw_tbl := tI_3 _ (List.mem_of_getElem? (i := 6) rfl)
theorem tw_516 : (Cond.instanceMethod yX1_costsBorne : Cond) ∈ lw_tbl := tI_3 _ (List.mem_of_getElem? (i := 7) rfl)
theorem wsL_law_r22_in : ∀ w ∈ wsL_law_r22, w ∈ lw_tbl := (List.forall_mem_cons.mpr ⟨tw_523, (List.forall_mem_cons.mpr ⟨tw_429, (List.forall_mem_cons.mpr ⟨tw_340, (List.forall_mem_cons.mpr ⟨tw_432, (List.forall_mem_cons.mpr ⟨tw_500, (List.forall_mem_cons.mpr ⟨tw_503, (List.forall_mem_cons.mpr ⟨tw_504, (List.forall_mem_cons.mpr ⟨tw_501, (List.forall_mem_cons.mpr ⟨tw_509, (List.forall_mem_cons.mpr ⟨tw_339, (List.forall_mem_cons.mpr ⟨tw_500, (List.forall_mem_cons.mpr ⟨tw_502, (List.forall_mem_cons.mpr ⟨tw_501, (List.forall_mem_cons.mpr ⟨tw_505, (List.forall_mem_cons.mpr ⟨tw_506, (List.forall_mem_cons.mpr ⟨tw_507, (List.forall_mem_cons.mpr ⟨tw_337, (List.forall_mem_cons.mpr ⟨tw_338, (List.forall_mem_cons.mpr ⟨tw_508, (List.forall_mem_cons.mpr ⟨tw_511, (List.forall_mem_cons.mpr ⟨tw_514, (List.forall_mem_cons.mpr ⟨tw_512, (List.forall_mem_cons.mpr ⟨tw_515, (List.forall_mem_cons.mpr ⟨tw_516, (fun _ h => absurd h List.not_mem_nil)⟩)⟩)⟩)⟩)⟩)⟩)⟩)⟩)⟩)⟩)⟩)⟩)⟩)⟩)⟩)⟩)⟩)⟩)⟩)⟩)⟩)⟩)⟩)⟩)
theorem tw_517 : (Cond.code yX1_costsBorne cX1_costsBorne 3 (some .long) : Cond) ∈ lw_tbl := tI_3 _ (List.mem_of_getElem? (i := 8) rfl)
theorem tw_518 : (Cond.constantLong RX1 7 (2) : Cond) ∈ lw_tbl := tI_3 _ (List.mem_of_getElem? (i := 9) rfl)
theorem tw_520 : (Cond.code yX2_costsBorne cX2_costsBorne 3 (some .long) : Cond) ∈ lw_tbl := tI_3 _ (List.mem_of_getElem? (i := 11) rfl)
theorem tw_513 : (Cond.selects RX2 yX2_costsBorne yX2_costsBorne : Cond) ∈ lw_tbl := tI_3 _ (List.mem_of_getElem? (i := 4) rfl)
theorem tw_519 : (Cond.selects RX4 ⟨"TributePitches$Gang", "costsBorne", "(J)J"⟩ yX1_costsBorne : Cond) ∈ lw_tbl := tI_3 _ (List.mem_of_getElem? (i := 10) rfl)
theorem tw_946 : (Cond.methodLink RL 77 yX11_settle : Cond) ∈ lw_tbl := tI_4 _ (List.mem_of_getElem? (i := 197) rfl)
theorem tw_947 : (Cond.instanceMethod yX11_settle : Cond) ∈ lw_tbl := tI_4 _ (List.mem_of_getElem? (i := 198) rfl)
theorem tw_948 : (Cond.selects RX11 yX11_settle yX11_settle : Cond) ∈ lw_tbl := tI_4 _ (List.mem_of_getElem? (i := 199) rfl)
theorem tw_949 : (Cond.code yX11_settle cX11_settle 7 (some .long) : Cond) ∈ lw_tbl := tI_4 _ (List.mem_of_getElem? (i := 200) rfl)
theorem tw_950 : (Cond.methodLink RX11 222 yX11_worthOf : Cond) ∈ lw_tbl := tI_4 _ (List.mem_of_getElem? (i := 201) rfl)
theorem tw_952 : (Cond.instanceMethod yX11_worthOf : Cond) ∈ lw_tbl := tI_4 _ (List.mem_of_getElem? (i := 203) rfl)
theorem tw_24 : (Cond.selects RX11 yX11_worthOf yX11_worthOf : Cond) ∈ lw_tbl := tI_0 _ (List.mem_of_getElem? (i := 24) rfl)
theorem tw_953 : (Cond.code yX11_worthOf cX11_worthOf 5 (some .long) : Cond) ∈ lw_tbl := tI_4 _ (List.mem_of_getElem? (i := 204) rfl)
theorem tw_524 : (Cond.methodLink RL 78 yX10_taken : Cond) ∈ lw_tbl := tI_3 _ (List.mem_of_getElem? (i := 15) rfl)
theorem tw_525 : (Cond.instanceMethod yX10_taken : Cond) ∈ lw_tbl := tI_3 _ (List.mem_of_getElem? (i := 16) rfl)
theorem tw_526 : (Cond.selects RX10 yX10_taken yX10_taken : Cond) ∈ lw_tbl := tI_3 _ (List.mem_of_getElem? (i := 17) rfl)
theorem tw_527 : (Cond.code yX10_taken cX10_taken 4 (some .int) : Cond) ∈ lw_tbl := tI_3 _ (List.mem_of_getElem? (i := 18) rfl)
theorem tw_418 : (Cond.fieldLink RX10 265 "TributePitches$Take" "gang" "LTributePitches$Gang;" : Cond) ∈ lw_tbl := tI_2 _ (List.mem_of_getElem? (i := 149) rfl)
theorem tw_332 : (Cond.fieldLink RX10 268 "TributePitches$Gang" "number" "I" : Cond) ∈ lw_tbl := tI_2 _ (List.mem_of_getElem? (i := 63) rfl)
theorem tw_266 : (Cond.fieldLink RX10 269 "TributePitches$Pitch" "number" "I" : Cond) ∈ lw_tbl := tI_1 _ (List.mem_of_getElem? (i := 237) rfl)
theorem tw_416 : (Cond.fieldLink RX10 270 "TributePitches$Take" "share" "I" : Cond) ∈ lw_tbl := tI_2 _ (List.mem_of_getElem? (i := 147) rfl)
theorem tw_954 : (Cond.methodLink RL 81 yX11_taken : Cond) ∈ lw_tbl := tI_4 _ (List.mem_of_getElem? (i := 205) rfl)
theorem wsL_law_r23_in : ∀ w ∈ wsL_law_r23, w ∈ lw_tbl := (List.forall_mem_cons.mpr ⟨tw_517, (List.forall_mem_cons.mpr ⟨tw_518, (List.forall_mem_cons.mpr ⟨tw_520, (List.forall_mem_cons.mpr ⟨tw_511, (List.forall_mem_cons.mpr ⟨tw_512, (List.forall_mem_cons.mpr ⟨tw_513, (List.forall_mem_cons.mpr ⟨tw_519, (List.forall_mem_cons.mpr ⟨tw_946, (List.forall_mem_cons.mpr ⟨tw_947, (List.forall_mem_cons.mpr ⟨tw_948, (List.forall_mem_cons.mpr ⟨tw_949, (List.forall_mem_cons.mpr ⟨tw_950, (List.forall_mem_cons.mpr ⟨tw_952, (List.forall_mem_cons.mpr ⟨tw_24, (List.forall_mem_cons.mpr ⟨tw_953, (List.forall_mem_cons.mpr ⟨tw_524, (List.forall_mem_cons.mpr ⟨tw_525, (List.forall_mem_cons.mpr ⟨tw_526, (List.forall_mem_cons.mpr ⟨tw_527, (List.forall_mem_cons.mpr ⟨tw_418, (List.forall_mem_cons.mpr ⟨tw_332, (List.forall_mem_cons.mpr ⟨tw_266, (List.forall_mem_cons.mpr ⟨tw_416, (List.forall_mem_cons.mpr ⟨tw_954, (fun _ h => absurd h List.not_mem_nil)⟩)⟩)⟩)⟩)⟩)⟩)⟩)⟩)⟩)⟩)⟩)⟩)⟩)⟩)⟩)⟩)⟩)⟩)⟩)⟩)⟩)⟩)⟩)⟩)
theorem tw_955 : (Cond.instanceMethod yX11_taken : Cond) ∈ lw_tbl := tI_4 _ (List.mem_of_getElem? (i := 206) rfl)
theorem tw_956 : (Cond.selects RX11 yX11_taken yX11_taken : Cond) ∈ lw_tbl := tI_4 _ (List.mem_of_getElem? (i := 207) rfl)
theorem tw_957 : (Cond.code yX11_taken cX11_taken 3 (some .int) : Cond) ∈ lw_tbl := tI_4 _ (List.mem_of_getElem? (i := 208) rfl)
theorem tw_958 : (Cond.methodLink RX11 225 yX11_parcelsOf : Cond) ∈ lw_tbl := tI_4 _ (List.mem_of_getElem? (i := 209) rfl)
theorem tw_960 : (Cond.instanceMethod yX11_parcelsOf : Cond) ∈ lw_tbl := tI_4 _ (List.mem_of_getElem? (i := 211) rfl)
theorem tw_25 : (Cond.selects RX11 yX11_parcelsOf yX11_parcelsOf : Cond) ∈ lw_tbl := tI_0 _ (List.mem_of_getElem? (i := 25) rfl)
theorem tw_961 : (Cond.code yX11_parcelsOf cX11_parcelsOf 4 (some .int) : Cond) ∈ lw_tbl := tI_4 _ (List.mem_of_getElem? (i := 212) rfl)
theorem tw_528 : (Cond.methodLink RL 82 yX10_money : Cond) ∈ lw_tbl := tI_3 _ (List.mem_of_getElem? (i := 19) rfl)
theorem tw_529 : (Cond.instanceMethod yX10_money : Cond) ∈ lw_tbl := tI_3 _ (List.mem_of_getElem? (i := 20) rfl)
theorem tw_530 : (Cond.selects RX10 yX10_money yX10_money : Cond) ∈ lw_tbl := tI_3 _ (List.mem_of_getElem? (i := 21) rfl)
theorem tw_531 : (Cond.code yX10_money cX10_money 4 (some .long) : Cond) ∈ lw_tbl := tI_3 _ (List.mem_of_getElem? (i := 22) rfl)
theorem tw_962 : (Cond.methodLink RL 85 yX11_money : Cond) ∈ lw_tbl := tI_4 _ (List.mem_of_getElem? (i := 213) rfl)
theorem tw_963 : (Cond.instanceMethod yX11_money : Cond) ∈ lw_tbl := tI_4 _ (List.mem_of_getElem? (i := 214) rfl)
theorem tw_964 : (Cond.selects RX11 yX11_money yX11_money : Cond) ∈ lw_tbl := tI_4 _ (List.mem_of_getElem? (i := 215) rfl)
theorem tw_965 : (Cond.code yX11_money cX11_money 3 (some .long) : Cond) ∈ lw_tbl := tI_4 _ (List.mem_of_getElem? (i := 216) rfl)
theorem tw_532 : (Cond.methodLink RL 86 yX10_debt : Cond) ∈ lw_tbl := tI_3 _ (List.mem_of_getElem? (i := 23) rfl)
theorem tw_533 : (Cond.instanceMethod yX10_debt : Cond) ∈ lw_tbl := tI_3 _ (List.mem_of_getElem? (i := 24) rfl)
theorem tw_534 : (Cond.selects RX10 yX10_debt yX10_debt : Cond) ∈ lw_tbl := tI_3 _ (List.mem_of_getElem? (i := 25) rfl)
theorem tw_535 : (Cond.code yX10_debt cX10_debt 3 (some .long) : Cond) ∈ lw_tbl := tI_3 _ (List.mem_of_getElem? (i := 26) rfl)
theorem tw_341 : (Cond.fieldLink RX10 271 "TributePitches$Gang" "owed" "J" : Cond) ∈ lw_tbl := tI_2 _ (List.mem_of_getElem? (i := 72) rfl)
theorem tw_966 : (Cond.methodLink RL 89 yX11_debt : Cond) ∈ lw_tbl := tI_4 _ (List.mem_of_getElem? (i := 217) rfl)
theorem tw_967 : (Cond.instanceMethod yX11_debt : Cond) ∈ lw_tbl := tI_4 _ (List.mem_of_getElem? (i := 218) rfl)
theorem tw_968 : (Cond.selects RX11 yX11_debt yX11_debt : Cond) ∈ lw_tbl := tI_4 _ (List.mem_of_getElem? (i := 219) rfl)
theorem tw_969 : (Cond.code yX11_debt cX11_debt 2 (some .long) : Cond) ∈ lw_tbl := tI_4 _ (List.mem_of_getElem? (i := 220) rfl)
theorem wsL_law_r24_in : ∀ w ∈ wsL_law_r24, w ∈ lw_tbl := (List.forall_mem_cons.mpr ⟨tw_955, (List.forall_mem_cons.mpr ⟨tw_956, (List.forall_mem_cons.mpr ⟨tw_957, (List.forall_mem_cons.mpr ⟨tw_958, (List.forall_mem_cons.mpr ⟨tw_960, (List.forall_mem_cons.mpr ⟨tw_25, (List.forall_mem_cons.mpr ⟨tw_961, (List.forall_mem_cons.mpr ⟨tw_528, (List.forall_mem_cons.mpr ⟨tw_529, (List.forall_mem_cons.mpr ⟨tw_530, (List.forall_mem_cons.mpr ⟨tw_531, (List.forall_mem_cons.mpr ⟨tw_962, (List.forall_mem_cons.mpr ⟨tw_963, (List.forall_mem_cons.mpr ⟨tw_964, (List.forall_mem_cons.mpr ⟨tw_965, (List.forall_mem_cons.mpr ⟨tw_532, (List.forall_mem_cons.mpr ⟨tw_533, (List.forall_mem_cons.mpr ⟨tw_534, (List.forall_mem_cons.mpr ⟨tw_535, (List.forall_mem_cons.mpr ⟨tw_341, (List.forall_mem_cons.mpr ⟨tw_966, (List.forall_mem_cons.mpr ⟨tw_967, (List.forall_mem_cons.mpr ⟨tw_968, (List.forall_mem_cons.mpr ⟨tw_969, (fun _ h => absurd h List.not_mem_nil)⟩)⟩)⟩)⟩)⟩)⟩)⟩)⟩)⟩)⟩)⟩)⟩)⟩)⟩)⟩)⟩)⟩)⟩)⟩)⟩)⟩)⟩)⟩)⟩)
theorem tw_536 : (Cond.methodLink RL 90 yX10_suspects : Cond) ∈ lw_tbl := tI_3 _ (List.mem_of_getElem? (i := 27) rfl)
theorem tw_537 : (Cond.instanceMethod yX10_suspects : Cond) ∈ lw_tbl := tI_3 _ (List.mem_of_getElem? (i := 28) rfl)
theorem tw_538 : (Cond.selects RX10 yX10_suspects yX10_suspects : Cond) ∈ lw_tbl := tI_3 _ (List.mem_of_getElem? (i := 29) rfl)
theorem tw_539 : (Cond.code yX10_suspects cX10_suspects 3 (some .int) : Cond) ∈ lw_tbl := tI_3 _ (List.mem_of_getElem? (i := 30) rfl)
theorem tw_540 : (Cond.methodLink RX10 274 yX5_isSuspect : Cond) ∈ lw_tbl := tI_3 _ (List.mem_of_getElem? (i := 31) rfl)
theorem tw_541 : (Cond.instanceMethod yX5_isSuspect : Cond) ∈ lw_tbl := tI_3 _ (List.mem_of_getElem? (i := 32) rfl)
theorem tw_542 : (Cond.selects RX5 yX5_isSuspect yX5_isSuspect : Cond) ∈ lw_tbl := tI_3 _ (List.mem_of_getElem? (i := 33) rfl)
theorem tw_543 : (Cond.code yX5_isSuspect cX5_isSuspect 2 (some .boolean) : Cond) ∈ lw_tbl := tI_3 _ (List.mem_of_getElem? (i := 34) rfl)
theorem tw_65 : (Cond.fieldLink RX5 17 "TributePitches$Lode" "highs" "[I" : Cond) ∈ lw_tbl := tI_1 _ (List.mem_of_getElem? (i := 36) rfl)
theorem tw_544 : (Cond.methodLink RX5 23 yX6_greatestOf : Cond) ∈ lw_tbl := tI_3 _ (List.mem_of_getElem? (i := 35) rfl)
theorem tw_545 : (Cond.instanceMethod yX6_greatestOf : Cond) ∈ lw_tbl := tI_3 _ (List.mem_of_getElem? (i := 36) rfl)
theorem tw_546 : (Cond.selects RX6 yX6_greatestOf yX6_greatestOf : Cond) ∈ lw_tbl := tI_3 _ (List.mem_of_getElem? (i := 37) rfl)
theorem tw_547 : (Cond.code yX6_greatestOf cX6_greatestOf 5 (some .int) : Cond) ∈ lw_tbl := tI_3 _ (List.mem_of_getElem? (i := 38) rfl)
theorem tw_548 : (Cond.methodLink RX6 34 Lib.Math.max.name : Cond) ∈ lw_tbl := tI_3 _ (List.mem_of_getElem? (i := 39) rfl)
theorem tw_970 : (Cond.methodLink RL 93 yX11_suspects : Cond) ∈ lw_tbl := tI_4 _ (List.mem_of_getElem? (i := 221) rfl)
theorem tw_971 : (Cond.instanceMethod yX11_suspects : Cond) ∈ lw_tbl := tI_4 _ (List.mem_of_getElem? (i := 222) rfl)
theorem tw_972 : (Cond.selects RX11 yX11_suspects yX11_suspects : Cond) ∈ lw_tbl := tI_4 _ (List.mem_of_getElem? (i := 223) rfl)
theorem tw_973 : (Cond.code yX11_suspects cX11_suspects 3 (some .int) : Cond) ∈ lw_tbl := tI_4 _ (List.mem_of_getElem? (i := 224) rfl)
theorem tw_974 : (Cond.methodLink RX11 228 yX11_isSuspect : Cond) ∈ lw_tbl := tI_4 _ (List.mem_of_getElem? (i := 225) rfl)
theorem tw_976 : (Cond.instanceMethod yX11_isSuspect : Cond) ∈ lw_tbl := tI_4 _ (List.mem_of_getElem? (i := 227) rfl)
theorem tw_26 : (Cond.selects RX11 yX11_isSuspect yX11_isSuspect : Cond) ∈ lw_tbl := tI_0 _ (List.mem_of_getElem? (i := 26) rfl)
theorem tw_977 : (Cond.code yX11_isSuspect cX11_isSuspect 5 (some .boolean) : Cond) ∈ lw_tbl := tI_4 _ (List.mem_of_getElem? (i := 228) rfl)
theorem tw_549 : (Cond.methodLink RL 94 yX10_suspect : Cond) ∈ lw_tbl := tI_3 _ (List.mem_of_getElem? (i := 40) rfl)
theorem tw_550 : (Cond.instanceMethod yX10_suspect : Cond) ∈ lw_tbl := tI_3 _ (List.mem_of_getElem? (i := 41) rfl)
theorem wsL_law_r25_in : ∀ w ∈ wsL_law_r25, w ∈ lw_tbl := (List.forall_mem_cons.mpr ⟨tw_536, (List.forall_mem_cons.mpr ⟨tw_537, (List.forall_mem_cons.mpr ⟨tw_538, (List.forall_mem_cons.mpr ⟨tw_539, (List.forall_mem_cons.mpr ⟨tw_540, (List.forall_mem_cons.mpr ⟨tw_541, (List.forall_mem_cons.mpr ⟨tw_542, (List.forall_mem_cons.mpr ⟨tw_543, (List.forall_mem_cons.mpr ⟨tw_65, (List.forall_mem_cons.mpr ⟨tw_544, (List.forall_mem_cons.mpr ⟨tw_545, (List.forall_mem_cons.mpr ⟨tw_546, (List.forall_mem_cons.mpr ⟨tw_547, (List.forall_mem_cons.mpr ⟨tw_548, (List.forall_mem_cons.mpr ⟨tw_970, (List.forall_mem_cons.mpr ⟨tw_971, (List.forall_mem_cons.mpr ⟨tw_972, (List.forall_mem_cons.mpr ⟨tw_973, (List.forall_mem_cons.mpr ⟨tw_974, (List.forall_mem_cons.mpr ⟨tw_976, (List.forall_mem_cons.mpr ⟨tw_26, (List.forall_mem_cons.mpr ⟨tw_977, (List.forall_mem_cons.mpr ⟨tw_549, (List.forall_mem_cons.mpr ⟨tw_550, (fun _ h => absurd h List.not_mem_nil)⟩)⟩)⟩)⟩)⟩)⟩)⟩)⟩)⟩)⟩)⟩)⟩)⟩)⟩)⟩)⟩)⟩)⟩)⟩)⟩)⟩)⟩)⟩)⟩)
theorem tw_551 : (Cond.selects RX10 yX10_suspect yX10_suspect : Cond) ∈ lw_tbl := tI_3 _ (List.mem_of_getElem? (i := 42) rfl)
theorem tw_552 : (Cond.code yX10_suspect cX10_suspect 4 (some .int) : Cond) ∈ lw_tbl := tI_3 _ (List.mem_of_getElem? (i := 43) rfl)
theorem tw_978 : (Cond.methodLink RL 97 yX11_suspect : Cond) ∈ lw_tbl := tI_4 _ (List.mem_of_getElem? (i := 229) rfl)
theorem tw_979 : (Cond.instanceMethod yX11_suspect : Cond) ∈ lw_tbl := tI_4 _ (List.mem_of_getElem? (i := 230) rfl)
theorem tw_980 : (Cond.selects RX11 yX11_suspect yX11_suspect : Cond) ∈ lw_tbl := tI_4 _ (List.mem_of_getElem? (i := 231) rfl)
theorem tw_981 : (Cond.code yX11_suspect cX11_suspect 4 (some .int) : Cond) ∈ lw_tbl := tI_4 _ (List.mem_of_getElem? (i := 232) rfl)
theorem tw_553 : (Cond.methodLink RL 98 yX10_skill : Cond) ∈ lw_tbl := tI_3 _ (List.mem_of_getElem? (i := 44) rfl)
theorem tw_554 : (Cond.instanceMethod yX10_skill : Cond) ∈ lw_tbl := tI_3 _ (List.mem_of_getElem? (i := 45) rfl)
theorem tw_555 : (Cond.selects RX10 yX10_skill yX10_skill : Cond) ∈ lw_tbl := tI_3 _ (List.mem_of_getElem? (i := 46) rfl)
theorem tw_556 : (Cond.code yX10_skill cX10_skill 12 (some .long) : Cond) ∈ lw_tbl := tI_3 _ (List.mem_of_getElem? (i := 47) rfl)
theorem tw_557 : (Cond.constantLong RX10 278 (2) : Cond) ∈ lw_tbl := tI_3 _ (List.mem_of_getElem? (i := 48) rfl)
theorem tw_558 : (Cond.methodLink RX10 280 yX10_commonDivisor : Cond) ∈ lw_tbl := tI_3 _ (List.mem_of_getElem? (i := 49) rfl)
theorem tw_559 : (Cond.static yX10_commonDivisor : Cond) ∈ lw_tbl := tI_3 _ (List.mem_of_getElem? (i := 50) rfl)
theorem tw_560 : (Cond.code yX10_commonDivisor cX10_commonDivisor 11 (some .long) : Cond) ∈ lw_tbl := tI_3 _ (List.mem_of_getElem? (i := 51) rfl)
theorem tw_982 : (Cond.methodLink RL 101 yX11_skill : Cond) ∈ lw_tbl := tI_4 _ (List.mem_of_getElem? (i := 233) rfl)
theorem tw_983 : (Cond.instanceMethod yX11_skill : Cond) ∈ lw_tbl := tI_4 _ (List.mem_of_getElem? (i := 234) rfl)
theorem tw_984 : (Cond.selects RX11 yX11_skill yX11_skill : Cond) ∈ lw_tbl := tI_4 _ (List.mem_of_getElem? (i := 235) rfl)
theorem tw_985 : (Cond.code yX11_skill cX11_skill 10 (some .long) : Cond) ∈ lw_tbl := tI_4 _ (List.mem_of_getElem? (i := 236) rfl)
theorem tw_986 : (Cond.methodLink RX11 231 yX11_common : Cond) ∈ lw_tbl := tI_4 _ (List.mem_of_getElem? (i := 237) rfl)
theorem tw_987 : (Cond.static yX11_common : Cond) ∈ lw_tbl := tI_4 _ (List.mem_of_getElem? (i := 238) rfl)
theorem tw_988 : (Cond.code yX11_common cX11_common 10 (some .long) : Cond) ∈ lw_tbl := tI_4 _ (List.mem_of_getElem? (i := 239) rfl)
theorem tw_561 : (Cond.methodLink RL 102 yX10_sheet : Cond) ∈ lw_tbl := tI_3 _ (List.mem_of_getElem? (i := 52) rfl)
theorem tw_562 : (Cond.instanceMethod yX10_sheet : Cond) ∈ lw_tbl := tI_3 _ (List.mem_of_getElem? (i := 53) rfl)
theorem tw_563 : (Cond.selects RX10 yX10_sheet yX10_sheet : Cond) ∈ lw_tbl := tI_3 _ (List.mem_of_getElem? (i := 54) rfl)
theorem wsL_law_r26_in : ∀ w ∈ wsL_law_r26, w ∈ lw_tbl := (List.forall_mem_cons.mpr ⟨tw_551, (List.forall_mem_cons.mpr ⟨tw_552, (List.forall_mem_cons.mpr ⟨tw_978, (List.forall_mem_cons.mpr ⟨tw_979, (List.forall_mem_cons.mpr ⟨tw_980, (List.forall_mem_cons.mpr ⟨tw_981, (List.forall_mem_cons.mpr ⟨tw_553, (List.forall_mem_cons.mpr ⟨tw_554, (List.forall_mem_cons.mpr ⟨tw_555, (List.forall_mem_cons.mpr ⟨tw_556, (List.forall_mem_cons.mpr ⟨tw_557, (List.forall_mem_cons.mpr ⟨tw_558, (List.forall_mem_cons.mpr ⟨tw_559, (List.forall_mem_cons.mpr ⟨tw_560, (List.forall_mem_cons.mpr ⟨tw_982, (List.forall_mem_cons.mpr ⟨tw_983, (List.forall_mem_cons.mpr ⟨tw_984, (List.forall_mem_cons.mpr ⟨tw_985, (List.forall_mem_cons.mpr ⟨tw_986, (List.forall_mem_cons.mpr ⟨tw_987, (List.forall_mem_cons.mpr ⟨tw_988, (List.forall_mem_cons.mpr ⟨tw_561, (List.forall_mem_cons.mpr ⟨tw_562, (List.forall_mem_cons.mpr ⟨tw_563, (fun _ h => absurd h List.not_mem_nil)⟩)⟩)⟩)⟩)⟩)⟩)⟩)⟩)⟩)⟩)⟩)⟩)⟩)⟩)⟩)⟩)⟩)⟩)⟩)⟩)⟩)⟩)⟩)⟩)
theorem tw_564 : (Cond.code yX10_sheet cX10_sheet 5 (some .int) : Cond) ∈ lw_tbl := tI_3 _ (List.mem_of_getElem? (i := 55) rfl)
theorem tw_565 : (Cond.methodLink RX10 284 yX7_renew : Cond) ∈ lw_tbl := tI_3 _ (List.mem_of_getElem? (i := 56) rfl)
theorem tw_566 : (Cond.instanceMethod yX7_renew : Cond) ∈ lw_tbl := tI_3 _ (List.mem_of_getElem? (i := 57) rfl)
theorem tw_567 : (Cond.selects RX7 yX7_renew yX7_renew : Cond) ∈ lw_tbl := tI_3 _ (List.mem_of_getElem? (i := 58) rfl)
theorem tw_568 : (Cond.code yX7_renew cX7_renew 3 none : Cond) ∈ lw_tbl := tI_3 _ (List.mem_of_getElem? (i := 59) rfl)
theorem tw_569 : (Cond.methodLink RX7 23 yJ7_fill_53178 : Cond) ∈ lw_tbl := tI_3 _ (List.mem_of_getElem? (i := 60) rfl)
theorem tw_822 : (Cond.methodLink RL 105 yX11_sheet : Cond) ∈ lw_tbl := tI_4 _ (List.mem_of_getElem? (i := 73) rfl)
theorem tw_823 : (Cond.instanceMethod yX11_sheet : Cond) ∈ lw_tbl := tI_4 _ (List.mem_of_getElem? (i := 74) rfl)
theorem tw_824 : (Cond.selects RX11 yX11_sheet yX11_sheet : Cond) ∈ lw_tbl := tI_4 _ (List.mem_of_getElem? (i := 75) rfl)
theorem tw_825 : (Cond.code yX11_sheet cX11_sheet 5 (some .int) : Cond) ∈ lw_tbl := tI_4 _ (List.mem_of_getElem? (i := 76) rfl)
theorem tw_570 : (Cond.methodLink RL 106 yX10_lose : Cond) ∈ lw_tbl := tI_3 _ (List.mem_of_getElem? (i := 61) rfl)
theorem tw_571 : (Cond.instanceMethod yX10_lose : Cond) ∈ lw_tbl := tI_3 _ (List.mem_of_getElem? (i := 62) rfl)
theorem tw_572 : (Cond.selects RX10 yX10_lose yX10_lose : Cond) ∈ lw_tbl := tI_3 _ (List.mem_of_getElem? (i := 63) rfl)
theorem tw_573 : (Cond.code yX10_lose cX10_lose 3 (some .int) : Cond) ∈ lw_tbl := tI_3 _ (List.mem_of_getElem? (i := 64) rfl)
theorem tw_574 : (Cond.methodLink RX10 288 yX7_hasNothing : Cond) ∈ lw_tbl := tI_3 _ (List.mem_of_getElem? (i := 65) rfl)
theorem tw_839 : (Cond.methodLink RL 109 yX11_lose : Cond) ∈ lw_tbl := tI_4 _ (List.mem_of_getElem? (i := 90) rfl)
theorem tw_840 : (Cond.instanceMethod yX11_lose : Cond) ∈ lw_tbl := tI_4 _ (List.mem_of_getElem? (i := 91) rfl)
theorem tw_841 : (Cond.selects RX11 yX11_lose yX11_lose : Cond) ∈ lw_tbl := tI_4 _ (List.mem_of_getElem? (i := 92) rfl)
theorem tw_842 : (Cond.code yX11_lose cX11_lose 3 (some .int) : Cond) ∈ lw_tbl := tI_4 _ (List.mem_of_getElem? (i := 93) rfl)
theorem tw_575 : (Cond.methodLink RL 110 yX10_put : Cond) ∈ lw_tbl := tI_3 _ (List.mem_of_getElem? (i := 66) rfl)
theorem tw_576 : (Cond.instanceMethod yX10_put : Cond) ∈ lw_tbl := tI_3 _ (List.mem_of_getElem? (i := 67) rfl)
theorem tw_577 : (Cond.selects RX10 yX10_put yX10_put : Cond) ∈ lw_tbl := tI_3 _ (List.mem_of_getElem? (i := 68) rfl)
theorem tw_578 : (Cond.code yX10_put cX10_put 5 (some .int) : Cond) ∈ lw_tbl := tI_3 _ (List.mem_of_getElem? (i := 69) rfl)
theorem tw_579 : (Cond.methodLink RX10 292 yX7_cut : Cond) ∈ lw_tbl := tI_3 _ (List.mem_of_getElem? (i := 70) rfl)
theorem wsL_law_r27_in : ∀ w ∈ wsL_law_r27, w ∈ lw_tbl := (List.forall_mem_cons.mpr ⟨tw_564, (List.forall_mem_cons.mpr ⟨tw_565, (List.forall_mem_cons.mpr ⟨tw_566, (List.forall_mem_cons.mpr ⟨tw_567, (List.forall_mem_cons.mpr ⟨tw_568, (List.forall_mem_cons.mpr ⟨tw_569, (List.forall_mem_cons.mpr ⟨tw_822, (List.forall_mem_cons.mpr ⟨tw_823, (List.forall_mem_cons.mpr ⟨tw_824, (List.forall_mem_cons.mpr ⟨tw_825, (List.forall_mem_cons.mpr ⟨tw_570, (List.forall_mem_cons.mpr ⟨tw_571, (List.forall_mem_cons.mpr ⟨tw_572, (List.forall_mem_cons.mpr ⟨tw_573, (List.forall_mem_cons.mpr ⟨tw_574, (List.forall_mem_cons.mpr ⟨tw_839, (List.forall_mem_cons.mpr ⟨tw_840, (List.forall_mem_cons.mpr ⟨tw_841, (List.forall_mem_cons.mpr ⟨tw_842, (List.forall_mem_cons.mpr ⟨tw_575, (List.forall_mem_cons.mpr ⟨tw_576, (List.forall_mem_cons.mpr ⟨tw_577, (List.forall_mem_cons.mpr ⟨tw_578, (List.forall_mem_cons.mpr ⟨tw_579, (fun _ h => absurd h List.not_mem_nil)⟩)⟩)⟩)⟩)⟩)⟩)⟩)⟩)⟩)⟩)⟩)⟩)⟩)⟩)⟩)⟩)⟩)⟩)⟩)⟩)⟩)⟩)⟩)⟩)
theorem tw_580 : (Cond.instanceMethod yX7_cut : Cond) ∈ lw_tbl := tI_3 _ (List.mem_of_getElem? (i := 71) rfl)
theorem tw_581 : (Cond.selects RX7 yX7_cut yX7_cut : Cond) ∈ lw_tbl := tI_3 _ (List.mem_of_getElem? (i := 72) rfl)
theorem tw_582 : (Cond.code yX7_cut cX7_cut 2 (some .int) : Cond) ∈ lw_tbl := tI_3 _ (List.mem_of_getElem? (i := 73) rfl)
theorem tw_843 : (Cond.methodLink RL 113 yX11_put : Cond) ∈ lw_tbl := tI_4 _ (List.mem_of_getElem? (i := 94) rfl)
theorem tw_844 : (Cond.instanceMethod yX11_put : Cond) ∈ lw_tbl := tI_4 _ (List.mem_of_getElem? (i := 95) rfl)
theorem tw_845 : (Cond.selects RX11 yX11_put yX11_put : Cond) ∈ lw_tbl := tI_4 _ (List.mem_of_getElem? (i := 96) rfl)
theorem tw_846 : (Cond.code yX11_put cX11_put 4 (some .int) : Cond) ∈ lw_tbl := tI_4 _ (List.mem_of_getElem? (i := 97) rfl)
theorem tw_847 : (Cond.methodLink RX11 156 yX11_noCell : Cond) ∈ lw_tbl := tI_4 _ (List.mem_of_getElem? (i := 98) rfl)
theorem tw_849 : (Cond.instanceMethod yX11_noCell : Cond) ∈ lw_tbl := tI_4 _ (List.mem_of_getElem? (i := 100) rfl)
theorem tw_14 : (Cond.selects RX11 yX11_noCell yX11_noCell : Cond) ∈ lw_tbl := tI_0 _ (List.mem_of_getElem? (i := 14) rfl)
theorem tw_850 : (Cond.code yX11_noCell cX11_noCell 3 (some .int) : Cond) ∈ lw_tbl := tI_4 _ (List.mem_of_getElem? (i := 101) rfl)
theorem tw_583 : (Cond.methodLink RL 114 yX10_cell : Cond) ∈ lw_tbl := tI_3 _ (List.mem_of_getElem? (i := 74) rfl)
theorem tw_584 : (Cond.instanceMethod yX10_cell : Cond) ∈ lw_tbl := tI_3 _ (List.mem_of_getElem? (i := 75) rfl)
theorem tw_585 : (Cond.selects RX10 yX10_cell yX10_cell : Cond) ∈ lw_tbl := tI_3 _ (List.mem_of_getElem? (i := 76) rfl)
theorem tw_586 : (Cond.code yX10_cell cX10_cell 5 (some .long) : Cond) ∈ lw_tbl := tI_3 _ (List.mem_of_getElem? (i := 77) rfl)
theorem tw_851 : (Cond.methodLink RL 117 yX11_cell : Cond) ∈ lw_tbl := tI_4 _ (List.mem_of_getElem? (i := 102) rfl)
theorem tw_852 : (Cond.instanceMethod yX11_cell : Cond) ∈ lw_tbl := tI_4 _ (List.mem_of_getElem? (i := 103) rfl)
theorem tw_853 : (Cond.selects RX11 yX11_cell yX11_cell : Cond) ∈ lw_tbl := tI_4 _ (List.mem_of_getElem? (i := 104) rfl)
theorem tw_854 : (Cond.code yX11_cell cX11_cell 4 (some .long) : Cond) ∈ lw_tbl := tI_4 _ (List.mem_of_getElem? (i := 105) rfl)
theorem tw_859 : (Cond.methodLink RX11 160 yX11_failedLong : Cond) ∈ lw_tbl := tI_4 _ (List.mem_of_getElem? (i := 110) rfl)
theorem tw_861 : (Cond.instanceMethod yX11_failedLong : Cond) ∈ lw_tbl := tI_4 _ (List.mem_of_getElem? (i := 112) rfl)
theorem tw_15 : (Cond.selects RX11 yX11_failedLong yX11_failedLong : Cond) ∈ lw_tbl := tI_0 _ (List.mem_of_getElem? (i := 15) rfl)
theorem tw_862 : (Cond.code yX11_failedLong cX11_failedLong 2 (some .long) : Cond) ∈ lw_tbl := tI_4 _ (List.mem_of_getElem? (i := 113) rfl)
theorem tw_587 : (Cond.methodLink RL 118 yX10_copy : Cond) ∈ lw_tbl := tI_3 _ (List.mem_of_getElem? (i := 78) rfl)
theorem wsL_law_r28_in : ∀ w ∈ wsL_law_r28, w ∈ lw_tbl := (List.forall_mem_cons.mpr ⟨tw_580, (List.forall_mem_cons.mpr ⟨tw_581, (List.forall_mem_cons.mpr ⟨tw_582, (List.forall_mem_cons.mpr ⟨tw_843, (List.forall_mem_cons.mpr ⟨tw_844, (List.forall_mem_cons.mpr ⟨tw_845, (List.forall_mem_cons.mpr ⟨tw_846, (List.forall_mem_cons.mpr ⟨tw_847, (List.forall_mem_cons.mpr ⟨tw_849, (List.forall_mem_cons.mpr ⟨tw_14, (List.forall_mem_cons.mpr ⟨tw_850, (List.forall_mem_cons.mpr ⟨tw_583, (List.forall_mem_cons.mpr ⟨tw_584, (List.forall_mem_cons.mpr ⟨tw_585, (List.forall_mem_cons.mpr ⟨tw_586, (List.forall_mem_cons.mpr ⟨tw_851, (List.forall_mem_cons.mpr ⟨tw_852, (List.forall_mem_cons.mpr ⟨tw_853, (List.forall_mem_cons.mpr ⟨tw_854, (List.forall_mem_cons.mpr ⟨tw_859, (List.forall_mem_cons.mpr ⟨tw_861, (List.forall_mem_cons.mpr ⟨tw_15, (List.forall_mem_cons.mpr ⟨tw_862, (List.forall_mem_cons.mpr ⟨tw_587, (fun _ h => absurd h List.not_mem_nil)⟩)⟩)⟩)⟩)⟩)⟩)⟩)⟩)⟩)⟩)⟩)⟩)⟩)⟩)⟩)⟩)⟩)⟩)⟩)⟩)⟩)⟩)⟩)⟩)
theorem tw_588 : (Cond.instanceMethod yX10_copy : Cond) ∈ lw_tbl := tI_3 _ (List.mem_of_getElem? (i := 79) rfl)
theorem tw_589 : (Cond.selects RX10 yX10_copy yX10_copy : Cond) ∈ lw_tbl := tI_3 _ (List.mem_of_getElem? (i := 80) rfl)
theorem tw_590 : (Cond.code yX10_copy cX10_copy 8 (some .int) : Cond) ∈ lw_tbl := tI_3 _ (List.mem_of_getElem? (i := 81) rfl)
theorem tw_101 : (Cond.fieldLink RX10 295 "TributePitches$Sheet" "lane" "I" : Cond) ∈ lw_tbl := tI_1 _ (List.mem_of_getElem? (i := 72) rfl)
theorem tw_591 : (Cond.methodLink RX10 298 arraycopyName : Cond) ∈ lw_tbl := tI_3 _ (List.mem_of_getElem? (i := 82) rfl)
theorem tw_863 : (Cond.methodLink RL 121 yX11_copy : Cond) ∈ lw_tbl := tI_4 _ (List.mem_of_getElem? (i := 114) rfl)
theorem tw_864 : (Cond.instanceMethod yX11_copy : Cond) ∈ lw_tbl := tI_4 _ (List.mem_of_getElem? (i := 115) rfl)
theorem tw_865 : (Cond.selects RX11 yX11_copy yX11_copy : Cond) ∈ lw_tbl := tI_4 _ (List.mem_of_getElem? (i := 116) rfl)
theorem tw_866 : (Cond.code yX11_copy cX11_copy 7 (some .int) : Cond) ∈ lw_tbl := tI_4 _ (List.mem_of_getElem? (i := 117) rfl)
theorem tw_592 : (Cond.methodLink RL 122 yX10_tell : Cond) ∈ lw_tbl := tI_3 _ (List.mem_of_getElem? (i := 83) rfl)
theorem tw_593 : (Cond.instanceMethod yX10_tell : Cond) ∈ lw_tbl := tI_3 _ (List.mem_of_getElem? (i := 84) rfl)
theorem tw_594 : (Cond.selects RX10 yX10_tell yX10_tell : Cond) ∈ lw_tbl := tI_3 _ (List.mem_of_getElem? (i := 85) rfl)
theorem tw_595 : (Cond.code yX10_tell cX10_tell 3 (some .int) : Cond) ∈ lw_tbl := tI_3 _ (List.mem_of_getElem? (i := 86) rfl)
theorem tw_596 : (Cond.methodLink RX10 304 ⟨"TributePitches$Gang", "telling", "(LTributePitches$Trace;)I"⟩ : Cond) ∈ lw_tbl := tI_3 _ (List.mem_of_getElem? (i := 87) rfl)
theorem tw_599 : (Cond.sameMethod "TributePitches$Gang" "TributePitches$Gang" "telling" "(LTributePitches$Trace;)I" : Cond) ∈ lw_tbl := tI_3 _ (List.mem_of_getElem? (i := 90) rfl)
theorem tw_597 : (Cond.instanceMethod ⟨"TributePitches$Gang", "telling", "(LTributePitches$Trace;)I"⟩ : Cond) ∈ lw_tbl := tI_3 _ (List.mem_of_getElem? (i := 88) rfl)
theorem tw_600 : (Cond.selects RX1 ⟨"TributePitches$Gang", "telling", "(LTributePitches$Trace;)I"⟩ yX1_telling : Cond) ∈ lw_tbl := tI_3 _ (List.mem_of_getElem? (i := 91) rfl)
theorem tw_601 : (Cond.instanceMethod yX1_telling : Cond) ∈ lw_tbl := tI_3 _ (List.mem_of_getElem? (i := 92) rfl)
theorem tw_602 : (Cond.code yX1_telling cX1_telling 2 (some .int) : Cond) ∈ lw_tbl := tI_3 _ (List.mem_of_getElem? (i := 93) rfl)
theorem tw_603 : (Cond.methodLink RX1 9 yX9_leave : Cond) ∈ lw_tbl := tI_3 _ (List.mem_of_getElem? (i := 94) rfl)
theorem tw_604 : (Cond.instanceMethod yX9_leave : Cond) ∈ lw_tbl := tI_3 _ (List.mem_of_getElem? (i := 95) rfl)
theorem tw_605 : (Cond.selects RX9 yX9_leave yX9_leave : Cond) ∈ lw_tbl := tI_3 _ (List.mem_of_getElem? (i := 96) rfl)
theorem tw_606 : (Cond.code yX9_leave cX9_leave 2 none : Cond) ∈ lw_tbl := tI_3 _ (List.mem_of_getElem? (i := 97) rfl)
theorem tw_116 : (Cond.fieldLink RX9 7 "TributePitches$Trace" "number" "I" : Cond) ∈ lw_tbl := tI_1 _ (List.mem_of_getElem? (i := 87) rfl)
theorem wsL_law_r29_in : ∀ w ∈ wsL_law_r29, w ∈ lw_tbl := (List.forall_mem_cons.mpr ⟨tw_588, (List.forall_mem_cons.mpr ⟨tw_589, (List.forall_mem_cons.mpr ⟨tw_590, (List.forall_mem_cons.mpr ⟨tw_101, (List.forall_mem_cons.mpr ⟨tw_591, (List.forall_mem_cons.mpr ⟨tw_863, (List.forall_mem_cons.mpr ⟨tw_864, (List.forall_mem_cons.mpr ⟨tw_865, (List.forall_mem_cons.mpr ⟨tw_866, (List.forall_mem_cons.mpr ⟨tw_592, (List.forall_mem_cons.mpr ⟨tw_593, (List.forall_mem_cons.mpr ⟨tw_594, (List.forall_mem_cons.mpr ⟨tw_595, (List.forall_mem_cons.mpr ⟨tw_596, (List.forall_mem_cons.mpr ⟨tw_599, (List.forall_mem_cons.mpr ⟨tw_597, (List.forall_mem_cons.mpr ⟨tw_600, (List.forall_mem_cons.mpr ⟨tw_601, (List.forall_mem_cons.mpr ⟨tw_602, (List.forall_mem_cons.mpr ⟨tw_603, (List.forall_mem_cons.mpr ⟨tw_604, (List.forall_mem_cons.mpr ⟨tw_605, (List.forall_mem_cons.mpr ⟨tw_606, (List.forall_mem_cons.mpr ⟨tw_116, (fun _ h => absurd h List.not_mem_nil)⟩)⟩)⟩)⟩)⟩)⟩)⟩)⟩)⟩)⟩)⟩)⟩)⟩)⟩)⟩)⟩)⟩)⟩)⟩)⟩)⟩)⟩)⟩)⟩)
theorem tw_607 : (Cond.methodLink RX1 14 ⟨"TributePitches$Family", "tellingOfAnyGang", "(LTributePitches$Trace;)I"⟩ : Cond) ∈ lw_tbl := tI_3 _ (List.mem_of_getElem? (i := 98) rfl)
theorem tw_608 : (Cond.sameMethod "TributePitches$Family" "TributePitches$Gang" "tellingOfAnyGang" "(LTributePitches$Trace;)I" : Cond) ∈ lw_tbl := tI_3 _ (List.mem_of_getElem? (i := 99) rfl)
theorem tw_610 : (Cond.selects RX1 ⟨"TributePitches$Family", "tellingOfAnyGang", "(LTributePitches$Trace;)I"⟩ yX2_tellingOfAnyGang : Cond) ∈ lw_tbl := tI_3 _ (List.mem_of_getElem? (i := 101) rfl)
theorem tw_612 : (Cond.instanceMethod yX2_tellingOfAnyGang : Cond) ∈ lw_tbl := tI_3 _ (List.mem_of_getElem? (i := 103) rfl)
theorem tw_613 : (Cond.code yX2_tellingOfAnyGang cX2_tellingOfAnyGang 2 (some .int) : Cond) ∈ lw_tbl := tI_3 _ (List.mem_of_getElem? (i := 104) rfl)
theorem tw_334 : (Cond.fieldLink RX2 29 "TributePitches$Gang" "takesHad" "I" : Cond) ∈ lw_tbl := tI_2 _ (List.mem_of_getElem? (i := 65) rfl)
theorem tw_614 : (Cond.methodLink RX2 23 yX9_leave : Cond) ∈ lw_tbl := tI_3 _ (List.mem_of_getElem? (i := 105) rfl)
theorem tw_611 : (Cond.selects RX4 ⟨"TributePitches$Family", "tellingOfAnyGang", "(LTributePitches$Trace;)I"⟩ yX2_tellingOfAnyGang : Cond) ∈ lw_tbl := tI_3 _ (List.mem_of_getElem? (i := 102) rfl)
theorem tw_622 : (Cond.code yX2_telling cX2_telling 2 (some .int) : Cond) ∈ lw_tbl := tI_3 _ (List.mem_of_getElem? (i := 113) rfl)
theorem tw_598 : (Cond.selects RX2 yX2_telling yX2_telling : Cond) ∈ lw_tbl := tI_3 _ (List.mem_of_getElem? (i := 89) rfl)
theorem tw_623 : (Cond.methodLink RX2 19 ⟨"TributePitches$Gang", "tellingOfAnyGang", "(LTributePitches$Trace;)I"⟩ : Cond) ∈ lw_tbl := tI_3 _ (List.mem_of_getElem? (i := 114) rfl)
theorem tw_1021 : (Cond.sameMethod "TributePitches$Gang" "TributePitches$Gang" "tellingOfAnyGang" "(LTributePitches$Trace;)I" : Cond) ∈ lw_tbl := tI_5 _ (List.mem_of_getElem? (i := 32) rfl)
theorem tw_1022 : (Cond.selects RX1 ⟨"TributePitches$Gang", "tellingOfAnyGang", "(LTributePitches$Trace;)I"⟩ yX2_tellingOfAnyGang : Cond) ∈ lw_tbl := tI_5 _ (List.mem_of_getElem? (i := 33) rfl)
theorem tw_1023 : (Cond.selects RX2 yX2_tellingOfAnyGang yX2_tellingOfAnyGang : Cond) ∈ lw_tbl := tI_5 _ (List.mem_of_getElem? (i := 34) rfl)
theorem tw_1024 : (Cond.selects RX4 ⟨"TributePitches$Gang", "tellingOfAnyGang", "(LTributePitches$Trace;)I"⟩ yX2_tellingOfAnyGang : Cond) ∈ lw_tbl := tI_5 _ (List.mem_of_getElem? (i := 35) rfl)
theorem tw_615 : (Cond.selects RX4 ⟨"TributePitches$Gang", "telling", "(LTributePitches$Trace;)I"⟩ yX4_telling : Cond) ∈ lw_tbl := tI_3 _ (List.mem_of_getElem? (i := 106) rfl)
theorem tw_616 : (Cond.instanceMethod yX4_telling : Cond) ∈ lw_tbl := tI_3 _ (List.mem_of_getElem? (i := 107) rfl)
theorem tw_617 : (Cond.code yX4_telling cX4_telling 2 (some .int) : Cond) ∈ lw_tbl := tI_3 _ (List.mem_of_getElem? (i := 108) rfl)
theorem tw_618 : (Cond.methodLink RX4 15 yX9_leave : Cond) ∈ lw_tbl := tI_3 _ (List.mem_of_getElem? (i := 109) rfl)
theorem tw_619 : (Cond.methodLink RX4 20 ⟨"TributePitches$OldHands", "tellingOfAnyGang", "(LTributePitches$Trace;)I"⟩ : Cond) ∈ lw_tbl := tI_3 _ (List.mem_of_getElem? (i := 110) rfl)
theorem tw_620 : (Cond.sameMethod "TributePitches$OldHands" "TributePitches$Gang" "tellingOfAnyGang" "(LTributePitches$Trace;)I" : Cond) ∈ lw_tbl := tI_3 _ (List.mem_of_getElem? (i := 111) rfl)
theorem wsL_law_r30_in : ∀ w ∈ wsL_law_r30, w ∈ lw_tbl := (List.forall_mem_cons.mpr ⟨tw_607, (List.forall_mem_cons.mpr ⟨tw_608, (List.forall_mem_cons.mpr ⟨tw_610, (List.forall_mem_cons.mpr ⟨tw_612, (List.forall_mem_cons.mpr ⟨tw_613, (List.forall_mem_cons.mpr ⟨tw_334, (List.forall_mem_cons.mpr ⟨tw_614, (List.forall_mem_cons.mpr ⟨tw_611, (List.forall_mem_cons.mpr ⟨tw_622, (List.forall_mem_cons.mpr ⟨tw_596, (List.forall_mem_cons.mpr ⟨tw_597, (List.forall_mem_cons.mpr ⟨tw_598, (List.forall_mem_cons.mpr ⟨tw_623, (List.forall_mem_cons.mpr ⟨tw_1021, (List.forall_mem_cons.mpr ⟨tw_1022, (List.forall_mem_cons.mpr ⟨tw_623, (List.forall_mem_cons.mpr ⟨tw_1023, (List.forall_mem_cons.mpr ⟨tw_1024, (List.forall_mem_cons.mpr ⟨tw_615, (List.forall_mem_cons.mpr ⟨tw_616, (List.forall_mem_cons.mpr ⟨tw_617, (List.forall_mem_cons.mpr ⟨tw_618, (List.forall_mem_cons.mpr ⟨tw_619, (List.forall_mem_cons.mpr ⟨tw_620, (fun _ h => absurd h List.not_mem_nil)⟩)⟩)⟩)⟩)⟩)⟩)⟩)⟩)⟩)⟩)⟩)⟩)⟩)⟩)⟩)⟩)⟩)⟩)⟩)⟩)⟩)⟩)⟩)⟩)
theorem tw_621 : (Cond.selects RX4 ⟨"TributePitches$OldHands", "tellingOfAnyGang", "(LTributePitches$Trace;)I"⟩ yX2_tellingOfAnyGang : Cond) ∈ lw_tbl := tI_3 _ (List.mem_of_getElem? (i := 112) rfl)
theorem tw_989 : (Cond.methodLink RL 125 yX11_tell : Cond) ∈ lw_tbl := tI_5 _ (List.mem_of_getElem? (i := 0) rfl)
theorem tw_990 : (Cond.instanceMethod yX11_tell : Cond) ∈ lw_tbl := tI_5 _ (List.mem_of_getElem? (i := 1) rfl)
theorem tw_991 : (Cond.selects RX11 yX11_tell yX11_tell : Cond) ∈ lw_tbl := tI_5 _ (List.mem_of_getElem? (i := 2) rfl)
theorem tw_992 : (Cond.code yX11_tell cX11_tell 2 (some .int) : Cond) ∈ lw_tbl := tI_5 _ (List.mem_of_getElem? (i := 3) rfl)
theorem tw_993 : (Cond.methodLink RX11 238 yX11_traced : Cond) ∈ lw_tbl := tI_5 _ (List.mem_of_getElem? (i := 4) rfl)
theorem tw_995 : (Cond.instanceMethod yX11_traced : Cond) ∈ lw_tbl := tI_5 _ (List.mem_of_getElem? (i := 6) rfl)
theorem tw_27 : (Cond.selects RX11 yX11_traced yX11_traced : Cond) ∈ lw_tbl := tI_0 _ (List.mem_of_getElem? (i := 27) rfl)
theorem tw_996 : (Cond.code yX11_traced cX11_traced 2 none : Cond) ∈ lw_tbl := tI_5 _ (List.mem_of_getElem? (i := 7) rfl)
theorem tw_703 : (Cond.fieldLink RX11 235 "TributePitchesModel" "trace" "I" : Cond) ∈ lw_tbl := tI_3 _ (List.mem_of_getElem? (i := 194) rfl)
theorem tw_997 : (Cond.methodLink RX11 242 yX11_takesBy : Cond) ∈ lw_tbl := tI_5 _ (List.mem_of_getElem? (i := 8) rfl)
theorem tw_999 : (Cond.instanceMethod yX11_takesBy : Cond) ∈ lw_tbl := tI_5 _ (List.mem_of_getElem? (i := 10) rfl)
theorem tw_28 : (Cond.selects RX11 yX11_takesBy yX11_takesBy : Cond) ∈ lw_tbl := tI_0 _ (List.mem_of_getElem? (i := 28) rfl)
theorem tw_1000 : (Cond.code yX11_takesBy cX11_takesBy 4 (some .int) : Cond) ∈ lw_tbl := tI_5 _ (List.mem_of_getElem? (i := 11) rfl)
theorem tw_624 : (Cond.methodLink RL 126 yX10_greet : Cond) ∈ lw_tbl := tI_3 _ (List.mem_of_getElem? (i := 115) rfl)
theorem tw_625 : (Cond.instanceMethod yX10_greet : Cond) ∈ lw_tbl := tI_3 _ (List.mem_of_getElem? (i := 116) rfl)
theorem tw_626 : (Cond.selects RX10 yX10_greet yX10_greet : Cond) ∈ lw_tbl := tI_3 _ (List.mem_of_getElem? (i := 117) rfl)
theorem tw_627 : (Cond.code yX10_greet cX10_greet 3 (some .int) : Cond) ∈ lw_tbl := tI_3 _ (List.mem_of_getElem? (i := 118) rfl)
theorem tw_628 : (Cond.methodLink RX10 308 ⟨"TributePitches$Gang", "greeting", "(LTributePitches$Trace;)I"⟩ : Cond) ∈ lw_tbl := tI_3 _ (List.mem_of_getElem? (i := 119) rfl)
theorem tw_631 : (Cond.sameMethod "TributePitches$Gang" "TributePitches$Gang" "greeting" "(LTributePitches$Trace;)I" : Cond) ∈ lw_tbl := tI_3 _ (List.mem_of_getElem? (i := 122) rfl)
theorem tw_629 : (Cond.instanceMethod ⟨"TributePitches$Gang", "greeting", "(LTributePitches$Trace;)I"⟩ : Cond) ∈ lw_tbl := tI_3 _ (List.mem_of_getElem? (i := 120) rfl)
theorem tw_632 : (Cond.selects RX1 ⟨"TributePitches$Gang", "greeting", "(LTributePitches$Trace;)I"⟩ yX1_greeting : Cond) ∈ lw_tbl := tI_3 _ (List.mem_of_getElem? (i := 123) rfl)
theorem tw_633 : (Cond.instanceMethod yX1_greeting : Cond) ∈ lw_tbl := tI_3 _ (List.mem_of_getElem? (i := 124) rfl)
theorem tw_634 : (Cond.code yX1_greeting cX1_greeting 2 (some .int) : Cond) ∈ lw_tbl := tI_3 _ (List.mem_of_getElem? (i := 125) rfl)
theorem wsL_law_r31_in : ∀ w ∈ wsL_law_r31, w ∈ lw_tbl := (List.forall_mem_cons.mpr ⟨tw_621, (List.forall_mem_cons.mpr ⟨tw_989, (List.forall_mem_cons.mpr ⟨tw_990, (List.forall_mem_cons.mpr ⟨tw_991, (List.forall_mem_cons.mpr ⟨tw_992, (List.forall_mem_cons.mpr ⟨tw_993, (List.forall_mem_cons.mpr ⟨tw_995, (List.forall_mem_cons.mpr ⟨tw_27, (List.forall_mem_cons.mpr ⟨tw_996, (List.forall_mem_cons.mpr ⟨tw_703, (List.forall_mem_cons.mpr ⟨tw_997, (List.forall_mem_cons.mpr ⟨tw_999, (List.forall_mem_cons.mpr ⟨tw_28, (List.forall_mem_cons.mpr ⟨tw_1000, (List.forall_mem_cons.mpr ⟨tw_624, (List.forall_mem_cons.mpr ⟨tw_625, (List.forall_mem_cons.mpr ⟨tw_626, (List.forall_mem_cons.mpr ⟨tw_627, (List.forall_mem_cons.mpr ⟨tw_628, (List.forall_mem_cons.mpr ⟨tw_631, (List.forall_mem_cons.mpr ⟨tw_629, (List.forall_mem_cons.mpr ⟨tw_632, (List.forall_mem_cons.mpr ⟨tw_633, (List.forall_mem_cons.mpr ⟨tw_634, (fun _ h => absurd h List.not_mem_nil)⟩)⟩)⟩)⟩)⟩)⟩)⟩)⟩)⟩)⟩)⟩)⟩)⟩)⟩)⟩)⟩)⟩)⟩)⟩)⟩)⟩)⟩)⟩)⟩)
theorem tw_639 : (Cond.code yX2_greeting cX2_greeting 2 (some .int) : Cond) ∈ lw_tbl := tI_3 _ (List.mem_of_getElem? (i := 130) rfl)
theorem tw_630 : (Cond.selects RX2 yX2_greeting yX2_greeting : Cond) ∈ lw_tbl := tI_3 _ (List.mem_of_getElem? (i := 121) rfl)
theorem tw_635 : (Cond.selects RX4 ⟨"TributePitches$Gang", "greeting", "(LTributePitches$Trace;)I"⟩ yX4_greeting : Cond) ∈ lw_tbl := tI_3 _ (List.mem_of_getElem? (i := 126) rfl)
theorem tw_636 : (Cond.instanceMethod yX4_greeting : Cond) ∈ lw_tbl := tI_3 _ (List.mem_of_getElem? (i := 127) rfl)
theorem tw_637 : (Cond.code yX4_greeting cX4_greeting 2 (some .int) : Cond) ∈ lw_tbl := tI_3 _ (List.mem_of_getElem? (i := 128) rfl)
theorem tw_638 : (Cond.methodLink RX4 24 yX1_greeting : Cond) ∈ lw_tbl := tI_3 _ (List.mem_of_getElem? (i := 129) rfl)
theorem tw_1025 : (Cond.sameMethod "TributePitches$Family" "TributePitches$Family" "greeting" "(LTributePitches$Trace;)I" : Cond) ∈ lw_tbl := tI_5 _ (List.mem_of_getElem? (i := 36) rfl)
theorem tw_350 : (Cond.superclass RX4 RX1 : Cond) ∈ lw_tbl := tI_2 _ (List.mem_of_getElem? (i := 81) rfl)
theorem tw_1001 : (Cond.methodLink RL 129 yX11_greet : Cond) ∈ lw_tbl := tI_5 _ (List.mem_of_getElem? (i := 12) rfl)
theorem tw_1002 : (Cond.instanceMethod yX11_greet : Cond) ∈ lw_tbl := tI_5 _ (List.mem_of_getElem? (i := 13) rfl)
theorem tw_1003 : (Cond.selects RX11 yX11_greet yX11_greet : Cond) ∈ lw_tbl := tI_5 _ (List.mem_of_getElem? (i := 14) rfl)
theorem tw_1004 : (Cond.code yX11_greet cX11_greet 2 (some .int) : Cond) ∈ lw_tbl := tI_5 _ (List.mem_of_getElem? (i := 15) rfl)
theorem tw_640 : (Cond.methodLink RL 130 yX10_as : Cond) ∈ lw_tbl := tI_3 _ (List.mem_of_getElem? (i := 131) rfl)
theorem tw_641 : (Cond.instanceMethod yX10_as : Cond) ∈ lw_tbl := tI_3 _ (List.mem_of_getElem? (i := 132) rfl)
theorem tw_642 : (Cond.selects RX10 yX10_as yX10_as : Cond) ∈ lw_tbl := tI_3 _ (List.mem_of_getElem? (i := 133) rfl)
theorem tw_643 : (Cond.code yX10_as cX10_as 4 (some .int) : Cond) ∈ lw_tbl := tI_3 _ (List.mem_of_getElem? (i := 134) rfl)
theorem tw_644 : (Cond.methodLink RX10 311 yX10_isOfKind : Cond) ∈ lw_tbl := tI_3 _ (List.mem_of_getElem? (i := 135) rfl)
theorem tw_645 : (Cond.static yX10_isOfKind : Cond) ∈ lw_tbl := tI_3 _ (List.mem_of_getElem? (i := 136) rfl)
theorem tw_646 : (Cond.code yX10_isOfKind cX10_isOfKind 2 (some .boolean) : Cond) ∈ lw_tbl := tI_3 _ (List.mem_of_getElem? (i := 137) rfl)
theorem tw_1005 : (Cond.methodLink RL 133 yX11_as : Cond) ∈ lw_tbl := tI_5 _ (List.mem_of_getElem? (i := 16) rfl)
theorem wsL_law_r32_in : ∀ w ∈ wsL_law_r32, w ∈ lw_tbl := (List.forall_mem_cons.mpr ⟨tw_639, (List.forall_mem_cons.mpr ⟨tw_628, (List.forall_mem_cons.mpr ⟨tw_629, (List.forall_mem_cons.mpr ⟨tw_630, (List.forall_mem_cons.mpr ⟨tw_635, (List.forall_mem_cons.mpr ⟨tw_636, (List.forall_mem_cons.mpr ⟨tw_637, (List.forall_mem_cons.mpr ⟨tw_638, (List.forall_mem_cons.mpr ⟨tw_1025, (List.forall_mem_cons.mpr ⟨tw_350, (List.forall_mem_cons.mpr ⟨tw_1001, (List.forall_mem_cons.mpr ⟨tw_1002, (List.forall_mem_cons.mpr ⟨tw_1003, (List.forall_mem_cons.mpr ⟨tw_1004, (List.forall_mem_cons.mpr ⟨tw_640, (List.forall_mem_cons.mpr ⟨tw_641, (List.forall_mem_cons.mpr ⟨tw_642, (List.forall_mem_cons.mpr ⟨tw_643, (List.forall_mem_cons.mpr ⟨tw_644, (List.forall_mem_cons.mpr ⟨tw_645, (List.forall_mem_cons.mpr ⟨tw_646, (List.forall_mem_cons.mpr ⟨tw_319, (List.forall_mem_cons.mpr ⟨tw_351, (List.forall_mem_cons.mpr ⟨tw_1005, (fun _ h => absurd h List.not_mem_nil)⟩)⟩)⟩)⟩)⟩)⟩)⟩)⟩)⟩)⟩)⟩)⟩)⟩)⟩)⟩)⟩)⟩)⟩)⟩)⟩)⟩)⟩)⟩)⟩)
theorem tw_1006 : (Cond.instanceMethod yX11_as : Cond) ∈ lw_tbl := tI_5 _ (List.mem_of_getElem? (i := 17) rfl)
theorem tw_1007 : (Cond.selects RX11 yX11_as yX11_as : Cond) ∈ lw_tbl := tI_5 _ (List.mem_of_getElem? (i := 18) rfl)
theorem tw_1008 : (Cond.code yX11_as cX11_as 3 (some .int) : Cond) ∈ lw_tbl := tI_5 _ (List.mem_of_getElem? (i := 19) rfl)
theorem tw_647 : (Cond.methodLink RL 134 yX10_trace : Cond) ∈ lw_tbl := tI_3 _ (List.mem_of_getElem? (i := 138) rfl)
theorem tw_648 : (Cond.instanceMethod yX10_trace : Cond) ∈ lw_tbl := tI_3 _ (List.mem_of_getElem? (i := 139) rfl)
theorem tw_649 : (Cond.selects RX10 yX10_trace yX10_trace : Cond) ∈ lw_tbl := tI_3 _ (List.mem_of_getElem? (i := 140) rfl)
theorem tw_650 : (Cond.code yX10_trace cX10_trace 1 (some .int) : Cond) ∈ lw_tbl := tI_3 _ (List.mem_of_getElem? (i := 141) rfl)
theorem tw_117 : (Cond.fieldLink RX10 315 "TributePitches$Trace" "number" "I" : Cond) ∈ lw_tbl := tI_1 _ (List.mem_of_getElem? (i := 88) rfl)
theorem tw_1009 : (Cond.methodLink RL 137 yX11_trace : Cond) ∈ lw_tbl := tI_5 _ (List.mem_of_getElem? (i := 20) rfl)
theorem tw_1010 : (Cond.instanceMethod yX11_trace : Cond) ∈ lw_tbl := tI_5 _ (List.mem_of_getElem? (i := 21) rfl)
theorem tw_1011 : (Cond.selects RX11 yX11_trace yX11_trace : Cond) ∈ lw_tbl := tI_5 _ (List.mem_of_getElem? (i := 22) rfl)
theorem tw_1012 : (Cond.code yX11_trace cX11_trace 1 (some .int) : Cond) ∈ lw_tbl := tI_5 _ (List.mem_of_getElem? (i := 23) rfl)
theorem tw_651 : (Cond.methodLink RL 138 yX10_fault : Cond) ∈ lw_tbl := tI_3 _ (List.mem_of_getElem? (i := 142) rfl)
theorem tw_652 : (Cond.instanceMethod yX10_fault : Cond) ∈ lw_tbl := tI_3 _ (List.mem_of_getElem? (i := 143) rfl)
theorem tw_653 : (Cond.selects RX10 yX10_fault yX10_fault : Cond) ∈ lw_tbl := tI_3 _ (List.mem_of_getElem? (i := 144) rfl)
theorem tw_654 : (Cond.code yX10_fault cX10_fault 1 (some .int) : Cond) ∈ lw_tbl := tI_3 _ (List.mem_of_getElem? (i := 145) rfl)
theorem tw_1013 : (Cond.methodLink RL 141 yX11_fault : Cond) ∈ lw_tbl := tI_5 _ (List.mem_of_getElem? (i := 24) rfl)
theorem tw_1014 : (Cond.instanceMethod yX11_fault : Cond) ∈ lw_tbl := tI_5 _ (List.mem_of_getElem? (i := 25) rfl)
theorem tw_1015 : (Cond.selects RX11 yX11_fault yX11_fault : Cond) ∈ lw_tbl := tI_5 _ (List.mem_of_getElem? (i := 26) rfl)
theorem tw_1016 : (Cond.code yX11_fault cX11_fault 1 (some .int) : Cond) ∈ lw_tbl := tI_5 _ (List.mem_of_getElem? (i := 27) rfl)
theorem tw_655 : (Cond.methodLink RL 142 yX10_told : Cond) ∈ lw_tbl := tI_3 _ (List.mem_of_getElem? (i := 146) rfl)
theorem tw_656 : (Cond.instanceMethod yX10_told : Cond) ∈ lw_tbl := tI_3 _ (List.mem_of_getElem? (i := 147) rfl)
theorem tw_657 : (Cond.selects RX10 yX10_told yX10_told : Cond) ∈ lw_tbl := tI_3 _ (List.mem_of_getElem? (i := 148) rfl)
theorem tw_658 : (Cond.code yX10_told cX10_told 2 (some .int) : Cond) ∈ lw_tbl := tI_3 _ (List.mem_of_getElem? (i := 149) rfl)
theorem wsL_law_r33_in : ∀ w ∈ wsL_law_r33, w ∈ lw_tbl := (List.forall_mem_cons.mpr ⟨tw_1006, (List.forall_mem_cons.mpr ⟨tw_1007, (List.forall_mem_cons.mpr ⟨tw_1008, (List.forall_mem_cons.mpr ⟨tw_647, (List.forall_mem_cons.mpr ⟨tw_648, (List.forall_mem_cons.mpr ⟨tw_649, (List.forall_mem_cons.mpr ⟨tw_650, (List.forall_mem_cons.mpr ⟨tw_117, (List.forall_mem_cons.mpr ⟨tw_1009, (List.forall_mem_cons.mpr ⟨tw_1010, (List.forall_mem_cons.mpr ⟨tw_1011, (List.forall_mem_cons.mpr ⟨tw_1012, (List.forall_mem_cons.mpr ⟨tw_651, (List.forall_mem_cons.mpr ⟨tw_652, (List.forall_mem_cons.mpr ⟨tw_653, (List.forall_mem_cons.mpr ⟨tw_654, (List.forall_mem_cons.mpr ⟨tw_1013, (List.forall_mem_cons.mpr ⟨tw_1014, (List.forall_mem_cons.mpr ⟨tw_1015, (List.forall_mem_cons.mpr ⟨tw_1016, (List.forall_mem_cons.mpr ⟨tw_655, (List.forall_mem_cons.mpr ⟨tw_656, (List.forall_mem_cons.mpr ⟨tw_657, (List.forall_mem_cons.mpr ⟨tw_658, (fun _ h => absurd h List.not_mem_nil)⟩)⟩)⟩)⟩)⟩)⟩)⟩)⟩)⟩)⟩)⟩)⟩)⟩)⟩)⟩)⟩)⟩)⟩)⟩)⟩)⟩)⟩)⟩)⟩)
theorem tw_1017 : (Cond.methodLink RL 145 yX11_told : Cond) ∈ lw_tbl := tI_5 _ (List.mem_of_getElem? (i := 28) rfl)
theorem tw_1018 : (Cond.instanceMethod yX11_told : Cond) ∈ lw_tbl := tI_5 _ (List.mem_of_getElem? (i := 29) rfl)
theorem tw_1019 : (Cond.selects RX11 yX11_told yX11_told : Cond) ∈ lw_tbl := tI_5 _ (List.mem_of_getElem? (i := 30) rfl)
theorem tw_1020 : (Cond.code yX11_told cX11_told 2 (some .int) : Cond) ∈ lw_tbl := tI_5 _ (List.mem_of_getElem? (i := 31) rfl)
theorem wsL_law_r34_in : ∀ w ∈ wsL_law_r34, w ∈ lw_tbl := (List.forall_mem_cons.mpr ⟨tw_1017, (List.forall_mem_cons.mpr ⟨tw_1018, (List.forall_mem_cons.mpr ⟨tw_1019, (List.forall_mem_cons.mpr ⟨tw_1020, (fun _ h => absurd h List.not_mem_nil)⟩)⟩)⟩)⟩)
set_option maxRecDepth 20000 in
theorem wsX100_in : ∀ w ∈ wsX100, w ∈ lw_tbl := in_by _ [134, 136, 138, 140, 142, 144, 146, 148, 150, 152, 154, 156, 158] (by decide +kernel)
set_option maxRecDepth 20000 in
theorem wsX110_in : ∀ w ∈ wsX110, w ∈ lw_tbl := in_by _ [704, 706, 708, 710, 712, 714, 716, 718, 720, 722, 724, 726, 728, 730, 732, 734, 736, 738, 740, 742, 744, 746, 748, 750, 752, 754, 756, 758, 760, 762, 764, 766, 768, 770, 772, 774, 776, 778, 780] (by decide +kernel)
set_option maxRecDepth 20000 in
theorem wsX30_in : ∀ w ∈ wsX30, w ∈ lw_tbl := in_by _ [71, 73, 75, 77, 79] (by decide +kernel)
set_option maxRecDepth 20000 in
theorem wsX70_in : ∀ w ∈ wsX70, w ∈ lw_tbl := in_by _ [103, 105, 107] (by decide +kernel)
set_option maxRecDepth 20000 in
theorem wsX90_in : ∀ w ∈ wsX90, w ∈ lw_tbl := in_by _ [118] (by decide +kernel)
set_option maxRecDepth 20000 in
theorem wsX60_in : ∀ w ∈ wsX60, w ∈ lw_tbl := in_by _ [281, 283, 285, 287, 289, 291, 293, 295] (by decide +kernel)
set_option maxRecDepth 20000 in
theorem wsX40_in : ∀ w ∈ wsX40, w ∈ lw_tbl := in_by _ [342, 344, 346, 348] (by decide +kernel)
set_option maxRecDepth 20000 in
theorem wsX10_in : ∀ w ∈ wsX10, w ∈ lw_tbl := in_by _ [354, 355, 356, 357] (by decide +kernel)
set_option maxRecDepth 20000 in
theorem wsX20_in : ∀ w ∈ wsX20, w ∈ lw_tbl := in_by _ [361, 362, 363, 364] (by decide +kernel)
set_option maxRecDepth 20000 in
theorem wsX00_in : ∀ w ∈ wsX00, w ∈ lw_tbl := in_by _ [383, 385, 387, 389] (by decide +kernel)
set_option maxRecDepth 20000 in
theorem wsX80_in : ∀ w ∈ wsX80, w ∈ lw_tbl := in_by _ [434, 436, 438, 440, 442, 444, 446, 448, 450, 452, 454, 456] (by decide +kernel)
set_option maxRecDepth 20000 in
theorem wsX50_in : ∀ w ∈ wsX50, w ∈ lw_tbl := in_by _ [482, 484] (by decide +kernel)
theorem wsL_law_in : ∀ w ∈ wsL_law, w ∈ lw_tbl := List.forall_mem_append.mpr ⟨(List.forall_mem_append.mpr ⟨(List.forall_mem_append.mpr ⟨(List.forall_mem_append.mpr ⟨(List.forall_mem_append.mpr ⟨(List.forall_mem_append.mpr ⟨(List.forall_mem_append.mpr ⟨(List.forall_mem_append.mpr ⟨(List.forall_mem_append.mpr ⟨(List.forall_mem_append.mpr ⟨(List.forall_mem_append.mpr ⟨(List.forall_mem_append.mpr ⟨(List.forall_mem_append.mpr ⟨(List.forall_mem_append.mpr ⟨wsL_law_r1_in, (List.forall_mem_append.mpr ⟨wsL_law_r2_in, (List.forall_mem_append.mpr ⟨wsL_law_r3_in, (List.forall_mem_append.mpr ⟨wsL_law_r4_in, (List.forall_mem_append.mpr ⟨wsL_law_r5_in, (List.forall_mem_append.mpr ⟨wsL_law_r6_in, (List.forall_mem_append.mpr ⟨wsL_law_r7_in, (List.forall_mem_append.mpr ⟨wsL_law_r8_in, (List.forall_mem_append.mpr ⟨wsL_law_r9_in, (List.forall_mem_append.mpr ⟨wsL_law_r10_in, (List.forall_mem_append.mpr ⟨wsL_law_r11_in, (List.forall_mem_append.mpr ⟨wsL_law_r12_in, (List.forall_mem_append.mpr ⟨wsL_law_r13_in, (List.forall_mem_append.mpr ⟨wsL_law_r14_in, (List.forall_mem_append.mpr ⟨wsL_law_r15_in, (List.forall_mem_append.mpr ⟨wsL_law_r16_in, (List.forall_mem_append.mpr ⟨wsL_law_r17_in, (List.forall_mem_append.mpr ⟨wsL_law_r18_in, (List.forall_mem_append.mpr ⟨wsL_law_r19_in, (List.forall_mem_append.mpr ⟨wsL_law_r20_in, (List.forall_mem_append.mpr ⟨wsL_law_r21_in, (List.forall_mem_append.mpr ⟨wsL_law_r22_in, (List.forall_mem_append.mpr ⟨wsL_law_r23_in, (List.forall_mem_append.mpr ⟨wsL_law_r24_in, (List.forall_mem_append.mpr ⟨wsL_law_r25_in, (List.forall_mem_append.mpr ⟨wsL_law_r26_in, (List.forall_mem_append.mpr ⟨wsL_law_r27_in, (List.forall_mem_append.mpr ⟨wsL_law_r28_in, (List.forall_mem_append.mpr ⟨wsL_law_r29_in, (List.forall_mem_append.mpr ⟨wsL_law_r30_in, (List.forall_mem_append.mpr ⟨wsL_law_r31_in, (List.forall_mem_append.mpr ⟨wsL_law_r32_in, (List.forall_mem_append.mpr ⟨wsL_law_r33_in, wsL_law_r34_in⟩)⟩)⟩)⟩)⟩)⟩)⟩)⟩)⟩)⟩)⟩)⟩)⟩)⟩)⟩)⟩)⟩)⟩)⟩)⟩)⟩)⟩)⟩)⟩)⟩)⟩)⟩)⟩)⟩)⟩)⟩)⟩)⟩), wsX100_in⟩), wsX110_in⟩), wsX30_in⟩), wsX70_in⟩), wsX90_in⟩), wsX60_in⟩), wsX40_in⟩), wsX10_in⟩), wsX20_in⟩), wsX00_in⟩), wsX80_in⟩), wsX50_in⟩), fun _ h => absurd h List.not_mem_nil⟩
theorem inlX0 : ∀ w ∈ wsX00, w ∈ wsL_law := fun _ h => List.mem_append_left _ (List.mem_append_left _ (List.mem_append_left _ (List.mem_append_right _ h)))
theorem inX0 : ∀ w ∈ wsX00, w ∈ lw_tbl := fun w h => wsL_law_in w (inlX0 w h)
theorem inlX1 : ∀ w ∈ wsX10, w ∈ wsL_law := fun _ h => List.mem_append_left _ (List.mem_append_left _ (List.mem_append_left _ (List.mem_append_left _ (List.mem_append_left _ (List.mem_append_right _ h)))))
theorem inX1 : ∀ w ∈ wsX10, w ∈ lw_tbl := fun w h => wsL_law_in w (inlX1 w h)
theorem inlX2 : ∀ w ∈ wsX20, w ∈ wsL_law := fun _ h => List.mem_append_left _ (List.mem_append_left _ (List.mem_append_left _ (List.mem_append_left _ (List.mem_append_right _ h))))
theorem inX2 : ∀ w ∈ wsX20, w ∈ lw_tbl := fun w h => wsL_law_in w (inlX2 w h)
theorem inlX3 : ∀ w ∈ wsX30, w ∈ wsL_law := fun _ h => List.mem_append_left _ (List.mem_append_left _ (List.mem_append_left _ (List.mem_append_left _ (List.mem_append_left _ (List.mem_append_left _ (List.mem_append_left _ (List.mem_append_left _ (List.mem_append_left _ (List.mem_append_left _ (List.mem_append_right _ h))))))))))
theorem inX3 : ∀ w ∈ wsX30, w ∈ lw_tbl := fun w h => wsL_law_in w (inlX3 w h)
theorem inlX4 : ∀ w ∈ wsX40, w ∈ wsL_law := fun _ h => List.mem_append_left _ (List.mem_append_left _ (List.mem_append_left _ (List.mem_append_left _ (List.mem_append_left _ (List.mem_append_left _ (List.mem_append_right _ h))))))
theorem inX4 : ∀ w ∈ wsX40, w ∈ lw_tbl := fun w h => wsL_law_in w (inlX4 w h)
theorem inlX5 : ∀ w ∈ wsX50, w ∈ wsL_law := fun _ h => List.mem_append_left _ (List.mem_append_right _ h)
theorem inX5 : ∀ w ∈ wsX50, w ∈ lw_tbl := fun w h => wsL_law_in w (inlX5 w h)
theorem inlX6 : ∀ w ∈ wsX60, w ∈ wsL_law := fun _ h => List.mem_append_left _ (List.mem_append_left _ (List.mem_append_left _ (List.mem_append_left _ (List.mem_append_left _ (List.mem_append_left _ (List.mem_append_left _ (List.mem_append_right _ h)))))))
theorem inX6 : ∀ w ∈ wsX60, w ∈ lw_tbl := fun w h => wsL_law_in w (inlX6 w h)
theorem inlX7 : ∀ w ∈ wsX70, w ∈ wsL_law := fun _ h => List.mem_append_left _ (List.mem_append_left _ (List.mem_append_left _ (List.mem_append_left _ (List.mem_append_left _ (List.mem_append_left _ (List.mem_append_left _ (List.mem_append_left _ (List.mem_append_left _ (List.mem_append_right _ h)))))))))
theorem inX7 : ∀ w ∈ wsX70, w ∈ lw_tbl := fun w h => wsL_law_in w (inlX7 w h)
theorem inlX8 : ∀ w ∈ wsX80, w ∈ wsL_law := fun _ h => List.mem_append_left _ (List.mem_append_left _ (List.mem_append_right _ h))
theorem inX8 : ∀ w ∈ wsX80, w ∈ lw_tbl := fun w h => wsL_law_in w (inlX8 w h)
theorem inlX9 : ∀ w ∈ wsX90, w ∈ wsL_law := fun _ h => List.mem_append_left _ (List.mem_append_left _ (List.mem_append_left _ (List.mem_append_left _ (List.mem_append_left _ (List.mem_append_left _ (List.mem_append_left _ (List.mem_append_left _ (List.mem_append_right _ h))))))))
theorem inX9 : ∀ w ∈ wsX90, w ∈ lw_tbl := fun w h => wsL_law_in w (inlX9 w h)
theorem inlX10 : ∀ w ∈ wsX100, w ∈ wsL_law := fun _ h => List.mem_append_left _ (List.mem_append_left _ (List.mem_append_left _ (List.mem_append_left _ (List.mem_append_left _ (List.mem_append_left _ (List.mem_append_left _ (List.mem_append_left _ (List.mem_append_left _ (List.mem_append_left _ (List.mem_append_left _ (List.mem_append_left _ (List.mem_append_right _ h))))))))))))
theorem inX10 : ∀ w ∈ wsX100, w ∈ lw_tbl := fun w h => wsL_law_in w (inlX10 w h)
theorem inlX11 : ∀ w ∈ wsX110, w ∈ wsL_law := fun _ h => List.mem_append_left _ (List.mem_append_left _ (List.mem_append_left _ (List.mem_append_left _ (List.mem_append_left _ (List.mem_append_left _ (List.mem_append_left _ (List.mem_append_left _ (List.mem_append_left _ (List.mem_append_left _ (List.mem_append_left _ (List.mem_append_right _ h)))))))))))
theorem inX11 : ∀ w ∈ wsX110, w ∈ lw_tbl := fun w h => wsL_law_in w (inlX11 w h)
theorem inJ9 : ∀ w ∈ wsJ90, w ∈ lw_tbl := by decide +kernel
theorem inJ10 : ∀ w ∈ wsJ100, w ∈ lw_tbl := by decide +kernel
theorem inJ7 : ∀ w ∈ wsJ70, w ∈ lw_tbl := by decide +kernel
theorem bind_ok {α β : Type} {r : Decoder α} {f : α → Decoder β} {c : ByteArray} {p q : Nat} {a : α} (h : r c p = .ok (a, q)) : (r >>= f) c p = f a c q := by
  show Except.bind (r c p) (fun x => f x.1 c x.2) = _
  rw [h]; rfl
theorem map_ok {α β : Type} {r : Decoder α} (f : α → β) {c : ByteArray} {p q : Nat} {a : α} (h : r c p = .ok (a, q)) : (f <$> r) c p = .ok (f a, q) := by
  show Except.bind (r c p) _ = _
  rw [h]; rfl
theorem u1_ok {d : ByteArray} {p : Nat} {b : UInt8} (h : d.data.toList[p]? = some b) : (Reader.u1 : Decoder Nat) d p = .ok (b.toNat, p + 1) := by
  obtain ⟨hp, hb⟩ := List.getElem?_eq_some_iff.mp h
  have hp' : p < d.size := hp
  have hb' : d[p] = b := hb
  unfold Reader.u1
  show (if h : p < d.size then _ else _ : Decoder Nat) d p = _
  rw [dif_pos hp', ← hb']; rfl
def preB : List Nat → List UInt8 → Bool
  | [], _ => true
  | _ :: _, [] => false
  | b :: bs, x :: l => Nat.beq b x.toNat && preB bs l
def Pfx (c : ByteArray) (pc : Nat) (bs : List Nat) : Prop := preB bs (c.data.toList.drop pc) = true
theorem pfx_u1 {c : ByteArray} {pc b : Nat} {bs : List Nat} (h : Pfx c pc (b :: bs)) : (Reader.u1 : Decoder Nat) c pc = .ok (b, pc + 1) ∧ Pfx c (pc + 1) bs := by
  unfold Pfx at h ⊢
  cases hl : c.data.toList.drop pc with
  | nil => rw [hl] at h; exact absurd h (by simp [preB])
  | cons x l =>
    rw [hl] at h
    have h : (Nat.beq b x.toNat && preB bs l) = true := h
    rw [Bool.and_eq_true] at h
    have hx : c.data.toList[pc]? = some x := by
      have := List.getElem?_drop (xs := c.data.toList) (i := pc) (j := 0)
      rw [hl] at this
      exact this.symm
    have hd : c.data.toList.drop (pc + 1) = l := by rw [← List.drop_drop, hl]; rfl
    rw [u1_ok hx, ← Nat.eq_of_beq_eq_true h.1, hd]
    exact ⟨rfl, h.2⟩
def chkB : List (Nat × List Nat) → Nat → List UInt8 → Bool
  | [], _, _ => true
  | r :: t, o, l => (Nat.ble o r.1 && preB r.2 (l.drop (r.1 - o))) && chkB t r.1 (l.drop (r.1 - o))
theorem chkB_mem {L : List UInt8} : ∀ (rs : List (Nat × List Nat)) (o : Nat), chkB rs o (L.drop o) = true → ∀ r ∈ rs, preB r.2 (L.drop r.1) = true
  | [], _, _, r, hr => absurd hr List.not_mem_nil
  | r0 :: t, o, h, r, hr => by
    have h : ((Nat.ble o r0.1 && preB r0.2 ((L.drop o).drop (r0.1 - o))) && chkB t r0.1 ((L.drop o).drop (r0.1 - o))) = true := h
    rw [Bool.and_eq_true, Bool.and_eq_true] at h
    have ho := Nat.le_of_ble_eq_true h.1.1
    have e : (L.drop o).drop (r0.1 - o) = L.drop r0.1 := by rw [List.drop_drop]; congr 1; omega
    rw [e] at h
    rcases List.mem_cons.mp hr with rfl | hr
    · exact h.1.2
    · exact chkB_mem t r0.1 h.2 r hr
theorem dl3 {c : ByteArray} {k pc : Nat} {bs : List Nat} {R : List (Nat × List Nat)} (h : chkB R k (c.data.toList.drop k) = true) (i : Nat) (hi : R[i]? = some (pc, bs)) : Pfx c pc bs := chkB_mem R k h _ (List.mem_of_getElem? hi)
theorem dec_of {c : ByteArray} {pc q : Nat} {ins : Instr} (n : Nat) (h : Decoder.instr pc c pc = .ok (ins, q)) (hq : q = pc + n) : decode c pc = .ok (ins, n) := by
  show Except.bind (Decoder.instr pc c pc) (fun x => .ok (x.1, x.2 - pc)) = .ok (ins, n)
  rw [h]; show Except.ok (ins, q - pc) = _
  rw [hq, Nat.add_sub_cancel_left]
theorem ob1 {op : Nat} {ins : Instr} (he : ∀ pc c p, (Reader.u1 : Decoder Nat) c p = .ok (op, p + 1) → Decoder.instr pc c p = (pure ins : Decoder Instr) c (p + 1)) {c : ByteArray} {pc : Nat} (h : Pfx c pc [op]) : decode c pc = .ok (ins, 1) :=
  dec_of 1 ((he pc c pc (pfx_u1 h).1).trans rfl) rfl
theorem o2u {op : Nat} {f : Nat → Instr} (he : ∀ pc c p, (Reader.u1 : Decoder Nat) c p = .ok (op, p + 1) → Decoder.instr pc c p = (Reader.u1 >>= fun a => pure (f a) : Decoder Instr) c (p + 1)) {c : ByteArray} {pc b1 : Nat} (h : Pfx c pc [op, b1]) : decode c pc = .ok (f b1, 2) :=
  dec_of 2 ((he pc c pc (pfx_u1 h).1).trans ((bind_ok (pfx_u1 (pfx_u1 h).2).1).trans rfl)) rfl
theorem o2s {op : Nat} {f : Int → Instr} (he : ∀ pc c p, (Reader.u1 : Decoder Nat) c p = .ok (op, p + 1) → Decoder.instr pc c p = (Reader.s1 >>= fun a => pure (f a) : Decoder Instr) c (p + 1)) {c : ByteArray} {pc b1 : Nat} {x : Int} (hx : Reader.signed 8 b1 = x) (h : Pfx c pc [op, b1]) : decode c pc = .ok (f x, 2) := by
  subst hx
  exact dec_of 2 ((he pc c pc (pfx_u1 h).1).trans ((bind_ok (map_ok (Reader.signed 8) (pfx_u1 (pfx_u1 h).2).1)).trans rfl)) rfl
theorem u2_ok {c : ByteArray} {p b1 b2 : Nat} (h : Pfx c p [b1, b2]) : (Reader.u2 : Decoder Nat) c p = .ok (b1 * 256 + b2, p + 1 + 1) :=
  (bind_ok (pfx_u1 h).1).trans ((bind_ok (pfx_u1 (pfx_u1 h).2).1).trans rfl)
theorem o3u {op : Nat} {f : Nat → Instr} (he : ∀ pc c p, (Reader.u1 : Decoder Nat) c p = .ok (op, p + 1) → Decoder.instr pc c p = (Reader.u2 >>= fun a => pure (f a) : Decoder Instr) c (p + 1)) {c : ByteArray} {pc b1 b2 x : Nat} (hx : b1 * 256 + b2 = x) (h : Pfx c pc [op, b1, b2]) : decode c pc = .ok (f x, 3) := by
  subst hx
  exact dec_of 3 ((he pc c pc (pfx_u1 h).1).trans ((bind_ok (u2_ok (pfx_u1 h).2)).trans rfl)) rfl
theorem o3s {op : Nat} {f : Int → Instr} (he : ∀ pc c p, (Reader.u1 : Decoder Nat) c p = .ok (op, p + 1) → Decoder.instr pc c p = (Reader.s2 >>= fun a => pure (f a) : Decoder Instr) c (p + 1)) {c : ByteArray} {pc b1 b2 : Nat} {x : Int} (hx : Reader.signed 16 (b1 * 256 + b2) = x) (h : Pfx c pc [op, b1, b2]) : decode c pc = .ok (f x, 3) := by
  subst hx
  exact dec_of 3 ((he pc c pc (pfx_u1 h).1).trans ((bind_ok (map_ok (Reader.signed 16) (u2_ok (pfx_u1 h).2))).trans rfl)) rfl
theorem o3i {op : Nat} {f : Nat → Int → Instr} (he : ∀ pc c p, (Reader.u1 : Decoder Nat) c p = .ok (op, p + 1) → Decoder.instr pc c p = (Reader.u1 >>= fun a => Reader.s1 >>= fun b => pure (f a b) : Decoder Instr) c (p + 1)) {c : ByteArray} {pc b1 b2 : Nat} {x : Int} (hx : Reader.signed 8 b2 = x) (h : Pfx c pc [op, b1, b2]) : decode c pc = .ok (f b1 x, 3) := by
  subst hx
  exact dec_of 3 ((he pc c pc (pfx_u1 h).1).trans ((bind_ok (pfx_u1 (pfx_u1 h).2).1).trans ((bind_ok (map_ok (Reader.signed 8) (pfx_u1 (pfx_u1 (pfx_u1 h).2).2).1)).trans rfl))) rfl
theorem o2n {op b1 : Nat} {ins : Instr} (he : ∀ pc c p, (Reader.u1 : Decoder Nat) c p = .ok (op, p + 1) → (Reader.u1 : Decoder Nat) c (p + 1) = .ok (b1, p + 1 + 1) → Decoder.instr pc c p = .ok (ins, p + 1 + 1)) {c : ByteArray} {pc : Nat} (h : Pfx c pc [op, b1]) : decode c pc = .ok (ins, 2) :=
  dec_of 2 (he pc c pc (pfx_u1 h).1 (pfx_u1 (pfx_u1 h).2).1) rfl
theorem oo_188_10 {c : ByteArray} {pc : Nat} (h : Pfx c pc [188, 10]) : decode c pc = .ok (.newarray .int, 2) := o2n (op := 188) (fun pc c p h h2 => by unfold Decoder.instr; exact (bind_ok h).trans ((bind_ok h2).trans rfl)) h
theorem oo_188_11 {c : ByteArray} {pc : Nat} (h : Pfx c pc [188, 11]) : decode c pc = .ok (.newarray .long, 2) := o2n (op := 188) (fun pc c p h h2 => by unfold Decoder.instr; exact (bind_ok h).trans ((bind_ok h2).trans rfl)) h
theorem oo_188_4 {c : ByteArray} {pc : Nat} (h : Pfx c pc [188, 4]) : decode c pc = .ok (.newarray .boolean, 2) := o2n (op := 188) (fun pc c p h h2 => by unfold Decoder.instr; exact (bind_ok h).trans ((bind_ok h2).trans rfl)) h
theorem oo_1 {c : ByteArray} {pc : Nat} (h : Pfx c pc [1]) : decode c pc = .ok (.aconst_null, 1) := ob1 (op := 1) (fun pc c p h => by unfold Decoder.instr; exact bind_ok h) h
theorem oo_10 {c : ByteArray} {pc : Nat} (h : Pfx c pc [10]) : decode c pc = .ok (.lconst 1, 1) := ob1 (op := 10) (fun pc c p h => by unfold Decoder.instr; exact bind_ok h) h
theorem oo_100 {c : ByteArray} {pc : Nat} (h : Pfx c pc [100]) : decode c pc = .ok (.isub, 1) := ob1 (op := 100) (fun pc c p h => by unfold Decoder.instr; exact bind_ok h) h
theorem oo_101 {c : ByteArray} {pc : Nat} (h : Pfx c pc [101]) : decode c pc = .ok (.lsub, 1) := ob1 (op := 101) (fun pc c p h => by unfold Decoder.instr; exact bind_ok h) h
theorem oo_104 {c : ByteArray} {pc : Nat} (h : Pfx c pc [104]) : decode c pc = .ok (.imul, 1) := ob1 (op := 104) (fun pc c p h => by unfold Decoder.instr; exact bind_ok h) h
theorem oo_105 {c : ByteArray} {pc : Nat} (h : Pfx c pc [105]) : decode c pc = .ok (.lmul, 1) := ob1 (op := 105) (fun pc c p h => by unfold Decoder.instr; exact bind_ok h) h
theorem oo_108 {c : ByteArray} {pc : Nat} (h : Pfx c pc [108]) : decode c pc = .ok (.idiv, 1) := ob1 (op := 108) (fun pc c p h => by unfold Decoder.instr; exact bind_ok h) h
theorem oo_109 {c : ByteArray} {pc : Nat} (h : Pfx c pc [109]) : decode c pc = .ok (.ldiv, 1) := ob1 (op := 109) (fun pc c p h => by unfold Decoder.instr; exact bind_ok h) h
theorem oo_112 {c : ByteArray} {pc : Nat} (h : Pfx c pc [112]) : decode c pc = .ok (.irem, 1) := ob1 (op := 112) (fun pc c p h => by unfold Decoder.instr; exact bind_ok h) h
theorem oo_113 {c : ByteArray} {pc : Nat} (h : Pfx c pc [113]) : decode c pc = .ok (.lrem, 1) := ob1 (op := 113) (fun pc c p h => by unfold Decoder.instr; exact bind_ok h) h
theorem oo_117 {c : ByteArray} {pc : Nat} (h : Pfx c pc [117]) : decode c pc = .ok (.lneg, 1) := ob1 (op := 117) (fun pc c p h => by unfold Decoder.instr; exact bind_ok h) h
theorem oo_126 {c : ByteArray} {pc : Nat} (h : Pfx c pc [126]) : decode c pc = .ok (.iand, 1) := ob1 (op := 126) (fun pc c p h => by unfold Decoder.instr; exact bind_ok h) h
theorem oo_132 {c : ByteArray} {pc b1 b2 : Nat} {x : Int} (hx : Reader.signed 8 b2 = x) (h : Pfx c pc [132, b1, b2]) : decode c pc = .ok (.iinc b1 x, 3) := o3i (op := 132) (fun pc c p h => by unfold Decoder.instr; exact bind_ok h) hx h
theorem oo_133 {c : ByteArray} {pc : Nat} (h : Pfx c pc [133]) : decode c pc = .ok (.i2l, 1) := ob1 (op := 133) (fun pc c p h => by unfold Decoder.instr; exact bind_ok h) h
theorem oo_145 {c : ByteArray} {pc : Nat} (h : Pfx c pc [145]) : decode c pc = .ok (.i2b, 1) := ob1 (op := 145) (fun pc c p h => by unfold Decoder.instr; exact bind_ok h) h
theorem oo_147 {c : ByteArray} {pc : Nat} (h : Pfx c pc [147]) : decode c pc = .ok (.i2s, 1) := ob1 (op := 147) (fun pc c p h => by unfold Decoder.instr; exact bind_ok h) h
theorem oo_148 {c : ByteArray} {pc : Nat} (h : Pfx c pc [148]) : decode c pc = .ok (.lcmp, 1) := ob1 (op := 148) (fun pc c p h => by unfold Decoder.instr; exact bind_ok h) h
theorem oo_153 {c : ByteArray} {pc b1 b2 : Nat} {x : Int} (hx : Reader.signed 16 (b1 * 256 + b2) = x) (h : Pfx c pc [153, b1, b2]) : decode c pc = .ok (.ifCond .eq x, 3) := o3s (op := 153) (fun pc c p h => by unfold Decoder.instr; exact bind_ok h) hx h
theorem oo_154 {c : ByteArray} {pc b1 b2 : Nat} {x : Int} (hx : Reader.signed 16 (b1 * 256 + b2) = x) (h : Pfx c pc [154, b1, b2]) : decode c pc = .ok (.ifCond .ne x, 3) := o3s (op := 154) (fun pc c p h => by unfold Decoder.instr; exact bind_ok h) hx h
theorem oo_155 {c : ByteArray} {pc b1 b2 : Nat} {x : Int} (hx : Reader.signed 16 (b1 * 256 + b2) = x) (h : Pfx c pc [155, b1, b2]) : decode c pc = .ok (.ifCond .lt x, 3) := o3s (op := 155) (fun pc c p h => by unfold Decoder.instr; exact bind_ok h) hx h
theorem oo_156 {c : ByteArray} {pc b1 b2 : Nat} {x : Int} (hx : Reader.signed 16 (b1 * 256 + b2) = x) (h : Pfx c pc [156, b1, b2]) : decode c pc = .ok (.ifCond .ge x, 3) := o3s (op := 156) (fun pc c p h => by unfold Decoder.instr; exact bind_ok h) hx h
theorem oo_157 {c : ByteArray} {pc b1 b2 : Nat} {x : Int} (hx : Reader.signed 16 (b1 * 256 + b2) = x) (h : Pfx c pc [157, b1, b2]) : decode c pc = .ok (.ifCond .gt x, 3) := o3s (op := 157) (fun pc c p h => by unfold Decoder.instr; exact bind_ok h) hx h
theorem oo_158 {c : ByteArray} {pc b1 b2 : Nat} {x : Int} (hx : Reader.signed 16 (b1 * 256 + b2) = x) (h : Pfx c pc [158, b1, b2]) : decode c pc = .ok (.ifCond .le x, 3) := o3s (op := 158) (fun pc c p h => by unfold Decoder.instr; exact bind_ok h) hx h
theorem oo_159 {c : ByteArray} {pc b1 b2 : Nat} {x : Int} (hx : Reader.signed 16 (b1 * 256 + b2) = x) (h : Pfx c pc [159, b1, b2]) : decode c pc = .ok (.if_icmp .eq x, 3) := o3s (op := 159) (fun pc c p h => by unfold Decoder.instr; exact bind_ok h) hx h
theorem oo_16 {c : ByteArray} {pc b1 : Nat} {x : Int} (hx : Reader.signed 8 b1 = x) (h : Pfx c pc [16, b1]) : decode c pc = .ok (.bipush x, 2) := o2s (op := 16) (fun pc c p h => by unfold Decoder.instr; exact bind_ok h) hx h
theorem oo_160 {c : ByteArray} {pc b1 b2 : Nat} {x : Int} (hx : Reader.signed 16 (b1 * 256 + b2) = x) (h : Pfx c pc [160, b1, b2]) : decode c pc = .ok (.if_icmp .ne x, 3) := o3s (op := 160) (fun pc c p h => by unfold Decoder.instr; exact bind_ok h) hx h
theorem oo_161 {c : ByteArray} {pc b1 b2 : Nat} {x : Int} (hx : Reader.signed 16 (b1 * 256 + b2) = x) (h : Pfx c pc [161, b1, b2]) : decode c pc = .ok (.if_icmp .lt x, 3) := o3s (op := 161) (fun pc c p h => by unfold Decoder.instr; exact bind_ok h) hx h
theorem oo_162 {c : ByteArray} {pc b1 b2 : Nat} {x : Int} (hx : Reader.signed 16 (b1 * 256 + b2) = x) (h : Pfx c pc [162, b1, b2]) : decode c pc = .ok (.if_icmp .ge x, 3) := o3s (op := 162) (fun pc c p h => by unfold Decoder.instr; exact bind_ok h) hx h
theorem oo_163 {c : ByteArray} {pc b1 b2 : Nat} {x : Int} (hx : Reader.signed 16 (b1 * 256 + b2) = x) (h : Pfx c pc [163, b1, b2]) : decode c pc = .ok (.if_icmp .gt x, 3) := o3s (op := 163) (fun pc c p h => by unfold Decoder.instr; exact bind_ok h) hx h
theorem oo_164 {c : ByteArray} {pc b1 b2 : Nat} {x : Int} (hx : Reader.signed 16 (b1 * 256 + b2) = x) (h : Pfx c pc [164, b1, b2]) : decode c pc = .ok (.if_icmp .le x, 3) := o3s (op := 164) (fun pc c p h => by unfold Decoder.instr; exact bind_ok h) hx h
theorem oo_165 {c : ByteArray} {pc b1 b2 : Nat} {x : Int} (hx : Reader.signed 16 (b1 * 256 + b2) = x) (h : Pfx c pc [165, b1, b2]) : decode c pc = .ok (.if_acmp .eq x, 3) := o3s (op := 165) (fun pc c p h => by unfold Decoder.instr; exact bind_ok h) hx h
theorem oo_166 {c : ByteArray} {pc b1 b2 : Nat} {x : Int} (hx : Reader.signed 16 (b1 * 256 + b2) = x) (h : Pfx c pc [166, b1, b2]) : decode c pc = .ok (.if_acmp .ne x, 3) := o3s (op := 166) (fun pc c p h => by unfold Decoder.instr; exact bind_ok h) hx h
theorem oo_167 {c : ByteArray} {pc b1 b2 : Nat} {x : Int} (hx : Reader.signed 16 (b1 * 256 + b2) = x) (h : Pfx c pc [167, b1, b2]) : decode c pc = .ok (.goto x, 3) := o3s (op := 167) (fun pc c p h => by unfold Decoder.instr; exact bind_ok h) hx h
theorem oo_17 {c : ByteArray} {pc b1 b2 : Nat} {x : Int} (hx : Reader.signed 16 (b1 * 256 + b2) = x) (h : Pfx c pc [17, b1, b2]) : decode c pc = .ok (.sipush x, 3) := o3s (op := 17) (fun pc c p h => by unfold Decoder.instr; exact bind_ok h) hx h
theorem oo_172 {c : ByteArray} {pc : Nat} (h : Pfx c pc [172]) : decode c pc = .ok (.ireturn, 1) := ob1 (op := 172) (fun pc c p h => by unfold Decoder.instr; exact bind_ok h) h
theorem oo_173 {c : ByteArray} {pc : Nat} (h : Pfx c pc [173]) : decode c pc = .ok (.lreturn, 1) := ob1 (op := 173) (fun pc c p h => by unfold Decoder.instr; exact bind_ok h) h
theorem oo_176 {c : ByteArray} {pc : Nat} (h : Pfx c pc [176]) : decode c pc = .ok (.areturn, 1) := ob1 (op := 176) (fun pc c p h => by unfold Decoder.instr; exact bind_ok h) h
theorem oo_177 {c : ByteArray} {pc : Nat} (h : Pfx c pc [177]) : decode c pc = .ok (.return_, 1) := ob1 (op := 177) (fun pc c p h => by unfold Decoder.instr; exact bind_ok h) h
theorem oo_18 {c : ByteArray} {pc b1 : Nat} (h : Pfx c pc [18, b1]) : decode c pc = .ok (.ldc b1, 2) := o2u (op := 18) (fun pc c p h => by unfold Decoder.instr; exact bind_ok h) h
theorem oo_180 {c : ByteArray} {pc b1 b2 : Nat} {x : Nat} (hx : b1 * 256 + b2 = x) (h : Pfx c pc [180, b1, b2]) : decode c pc = .ok (.getfield x, 3) := o3u (op := 180) (fun pc c p h => by unfold Decoder.instr; exact bind_ok h) hx h
theorem oo_181 {c : ByteArray} {pc b1 b2 : Nat} {x : Nat} (hx : b1 * 256 + b2 = x) (h : Pfx c pc [181, b1, b2]) : decode c pc = .ok (.putfield x, 3) := o3u (op := 181) (fun pc c p h => by unfold Decoder.instr; exact bind_ok h) hx h
theorem oo_182 {c : ByteArray} {pc b1 b2 : Nat} {x : Nat} (hx : b1 * 256 + b2 = x) (h : Pfx c pc [182, b1, b2]) : decode c pc = .ok (.invokevirtual x, 3) := o3u (op := 182) (fun pc c p h => by unfold Decoder.instr; exact bind_ok h) hx h
theorem oo_183 {c : ByteArray} {pc b1 b2 : Nat} {x : Nat} (hx : b1 * 256 + b2 = x) (h : Pfx c pc [183, b1, b2]) : decode c pc = .ok (.invokespecial x, 3) := o3u (op := 183) (fun pc c p h => by unfold Decoder.instr; exact bind_ok h) hx h
theorem oo_184 {c : ByteArray} {pc b1 b2 : Nat} {x : Nat} (hx : b1 * 256 + b2 = x) (h : Pfx c pc [184, b1, b2]) : decode c pc = .ok (.invokestatic x, 3) := o3u (op := 184) (fun pc c p h => by unfold Decoder.instr; exact bind_ok h) hx h
theorem oo_187 {c : ByteArray} {pc b1 b2 : Nat} {x : Nat} (hx : b1 * 256 + b2 = x) (h : Pfx c pc [187, b1, b2]) : decode c pc = .ok (.new x, 3) := o3u (op := 187) (fun pc c p h => by unfold Decoder.instr; exact bind_ok h) hx h
theorem oo_189 {c : ByteArray} {pc b1 b2 : Nat} {x : Nat} (hx : b1 * 256 + b2 = x) (h : Pfx c pc [189, b1, b2]) : decode c pc = .ok (.anewarray x, 3) := o3u (op := 189) (fun pc c p h => by unfold Decoder.instr; exact bind_ok h) hx h
theorem oo_190 {c : ByteArray} {pc : Nat} (h : Pfx c pc [190]) : decode c pc = .ok (.arraylength, 1) := ob1 (op := 190) (fun pc c p h => by unfold Decoder.instr; exact bind_ok h) h
theorem oo_193 {c : ByteArray} {pc b1 b2 : Nat} {x : Nat} (hx : b1 * 256 + b2 = x) (h : Pfx c pc [193, b1, b2]) : decode c pc = .ok (.instanceof x, 3) := o3u (op := 193) (fun pc c p h => by unfold Decoder.instr; exact bind_ok h) hx h
theorem oo_198 {c : ByteArray} {pc b1 b2 : Nat} {x : Int} (hx : Reader.signed 16 (b1 * 256 + b2) = x) (h : Pfx c pc [198, b1, b2]) : decode c pc = .ok (.ifnull x, 3) := o3s (op := 198) (fun pc c p h => by unfold Decoder.instr; exact bind_ok h) hx h
theorem oo_199 {c : ByteArray} {pc b1 b2 : Nat} {x : Int} (hx : Reader.signed 16 (b1 * 256 + b2) = x) (h : Pfx c pc [199, b1, b2]) : decode c pc = .ok (.ifnonnull x, 3) := o3s (op := 199) (fun pc c p h => by unfold Decoder.instr; exact bind_ok h) hx h
theorem oo_2 {c : ByteArray} {pc : Nat} (h : Pfx c pc [2]) : decode c pc = .ok (.iconst (-1), 1) := ob1 (op := 2) (fun pc c p h => by unfold Decoder.instr; exact bind_ok h) h
theorem oo_20 {c : ByteArray} {pc b1 b2 : Nat} {x : Nat} (hx : b1 * 256 + b2 = x) (h : Pfx c pc [20, b1, b2]) : decode c pc = .ok (.ldc2_w x, 3) := o3u (op := 20) (fun pc c p h => by unfold Decoder.instr; exact bind_ok h) hx h
theorem oo_21 {c : ByteArray} {pc b1 : Nat} (h : Pfx c pc [21, b1]) : decode c pc = .ok (.iload b1, 2) := o2u (op := 21) (fun pc c p h => by unfold Decoder.instr; exact bind_ok h) h
theorem oo_22 {c : ByteArray} {pc b1 : Nat} (h : Pfx c pc [22, b1]) : decode c pc = .ok (.lload b1, 2) := o2u (op := 22) (fun pc c p h => by unfold Decoder.instr; exact bind_ok h) h
theorem oo_25 {c : ByteArray} {pc b1 : Nat} (h : Pfx c pc [25, b1]) : decode c pc = .ok (.aload b1, 2) := o2u (op := 25) (fun pc c p h => by unfold Decoder.instr; exact bind_ok h) h
theorem oo_26 {c : ByteArray} {pc : Nat} (h : Pfx c pc [26]) : decode c pc = .ok (.iload_n 0, 1) := ob1 (op := 26) (fun pc c p h => by unfold Decoder.instr; exact bind_ok h) h
theorem oo_27 {c : ByteArray} {pc : Nat} (h : Pfx c pc [27]) : decode c pc = .ok (.iload_n 1, 1) := ob1 (op := 27) (fun pc c p h => by unfold Decoder.instr; exact bind_ok h) h
theorem oo_28 {c : ByteArray} {pc : Nat} (h : Pfx c pc [28]) : decode c pc = .ok (.iload_n 2, 1) := ob1 (op := 28) (fun pc c p h => by unfold Decoder.instr; exact bind_ok h) h
theorem oo_29 {c : ByteArray} {pc : Nat} (h : Pfx c pc [29]) : decode c pc = .ok (.iload_n 3, 1) := ob1 (op := 29) (fun pc c p h => by unfold Decoder.instr; exact bind_ok h) h
theorem oo_3 {c : ByteArray} {pc : Nat} (h : Pfx c pc [3]) : decode c pc = .ok (.iconst 0, 1) := ob1 (op := 3) (fun pc c p h => by unfold Decoder.instr; exact bind_ok h) h
theorem oo_30 {c : ByteArray} {pc : Nat} (h : Pfx c pc [30]) : decode c pc = .ok (.lload_n 0, 1) := ob1 (op := 30) (fun pc c p h => by unfold Decoder.instr; exact bind_ok h) h
theorem oo_31 {c : ByteArray} {pc : Nat} (h : Pfx c pc [31]) : decode c pc = .ok (.lload_n 1, 1) := ob1 (op := 31) (fun pc c p h => by unfold Decoder.instr; exact bind_ok h) h
theorem oo_32 {c : ByteArray} {pc : Nat} (h : Pfx c pc [32]) : decode c pc = .ok (.lload_n 2, 1) := ob1 (op := 32) (fun pc c p h => by unfold Decoder.instr; exact bind_ok h) h
theorem oo_33 {c : ByteArray} {pc : Nat} (h : Pfx c pc [33]) : decode c pc = .ok (.lload_n 3, 1) := ob1 (op := 33) (fun pc c p h => by unfold Decoder.instr; exact bind_ok h) h
theorem oo_4 {c : ByteArray} {pc : Nat} (h : Pfx c pc [4]) : decode c pc = .ok (.iconst 1, 1) := ob1 (op := 4) (fun pc c p h => by unfold Decoder.instr; exact bind_ok h) h
theorem oo_42 {c : ByteArray} {pc : Nat} (h : Pfx c pc [42]) : decode c pc = .ok (.aload_n 0, 1) := ob1 (op := 42) (fun pc c p h => by unfold Decoder.instr; exact bind_ok h) h
theorem oo_43 {c : ByteArray} {pc : Nat} (h : Pfx c pc [43]) : decode c pc = .ok (.aload_n 1, 1) := ob1 (op := 43) (fun pc c p h => by unfold Decoder.instr; exact bind_ok h) h
theorem oo_44 {c : ByteArray} {pc : Nat} (h : Pfx c pc [44]) : decode c pc = .ok (.aload_n 2, 1) := ob1 (op := 44) (fun pc c p h => by unfold Decoder.instr; exact bind_ok h) h
theorem oo_45 {c : ByteArray} {pc : Nat} (h : Pfx c pc [45]) : decode c pc = .ok (.aload_n 3, 1) := ob1 (op := 45) (fun pc c p h => by unfold Decoder.instr; exact bind_ok h) h
theorem oo_46 {c : ByteArray} {pc : Nat} (h : Pfx c pc [46]) : decode c pc = .ok (.iaload, 1) := ob1 (op := 46) (fun pc c p h => by unfold Decoder.instr; exact bind_ok h) h
theorem oo_47 {c : ByteArray} {pc : Nat} (h : Pfx c pc [47]) : decode c pc = .ok (.laload, 1) := ob1 (op := 47) (fun pc c p h => by unfold Decoder.instr; exact bind_ok h) h
theorem oo_5 {c : ByteArray} {pc : Nat} (h : Pfx c pc [5]) : decode c pc = .ok (.iconst 2, 1) := ob1 (op := 5) (fun pc c p h => by unfold Decoder.instr; exact bind_ok h) h
theorem oo_50 {c : ByteArray} {pc : Nat} (h : Pfx c pc [50]) : decode c pc = .ok (.aaload, 1) := ob1 (op := 50) (fun pc c p h => by unfold Decoder.instr; exact bind_ok h) h
theorem oo_51 {c : ByteArray} {pc : Nat} (h : Pfx c pc [51]) : decode c pc = .ok (.baload, 1) := ob1 (op := 51) (fun pc c p h => by unfold Decoder.instr; exact bind_ok h) h
theorem oo_54 {c : ByteArray} {pc b1 : Nat} (h : Pfx c pc [54, b1]) : decode c pc = .ok (.istore b1, 2) := o2u (op := 54) (fun pc c p h => by unfold Decoder.instr; exact bind_ok h) h
theorem oo_55 {c : ByteArray} {pc b1 : Nat} (h : Pfx c pc [55, b1]) : decode c pc = .ok (.lstore b1, 2) := o2u (op := 55) (fun pc c p h => by unfold Decoder.instr; exact bind_ok h) h
theorem oo_58 {c : ByteArray} {pc b1 : Nat} (h : Pfx c pc [58, b1]) : decode c pc = .ok (.astore b1, 2) := o2u (op := 58) (fun pc c p h => by unfold Decoder.instr; exact bind_ok h) h
theorem oo_6 {c : ByteArray} {pc : Nat} (h : Pfx c pc [6]) : decode c pc = .ok (.iconst 3, 1) := ob1 (op := 6) (fun pc c p h => by unfold Decoder.instr; exact bind_ok h) h
theorem oo_60 {c : ByteArray} {pc : Nat} (h : Pfx c pc [60]) : decode c pc = .ok (.istore_n 1, 1) := ob1 (op := 60) (fun pc c p h => by unfold Decoder.instr; exact bind_ok h) h
theorem oo_61 {c : ByteArray} {pc : Nat} (h : Pfx c pc [61]) : decode c pc = .ok (.istore_n 2, 1) := ob1 (op := 61) (fun pc c p h => by unfold Decoder.instr; exact bind_ok h) h
theorem oo_62 {c : ByteArray} {pc : Nat} (h : Pfx c pc [62]) : decode c pc = .ok (.istore_n 3, 1) := ob1 (op := 62) (fun pc c p h => by unfold Decoder.instr; exact bind_ok h) h
theorem oo_64 {c : ByteArray} {pc : Nat} (h : Pfx c pc [64]) : decode c pc = .ok (.lstore_n 1, 1) := ob1 (op := 64) (fun pc c p h => by unfold Decoder.instr; exact bind_ok h) h
theorem oo_65 {c : ByteArray} {pc : Nat} (h : Pfx c pc [65]) : decode c pc = .ok (.lstore_n 2, 1) := ob1 (op := 65) (fun pc c p h => by unfold Decoder.instr; exact bind_ok h) h
theorem oo_66 {c : ByteArray} {pc : Nat} (h : Pfx c pc [66]) : decode c pc = .ok (.lstore_n 3, 1) := ob1 (op := 66) (fun pc c p h => by unfold Decoder.instr; exact bind_ok h) h
theorem oo_7 {c : ByteArray} {pc : Nat} (h : Pfx c pc [7]) : decode c pc = .ok (.iconst 4, 1) := ob1 (op := 7) (fun pc c p h => by unfold Decoder.instr; exact bind_ok h) h
theorem oo_76 {c : ByteArray} {pc : Nat} (h : Pfx c pc [76]) : decode c pc = .ok (.astore_n 1, 1) := ob1 (op := 76) (fun pc c p h => by unfold Decoder.instr; exact bind_ok h) h
theorem oo_77 {c : ByteArray} {pc : Nat} (h : Pfx c pc [77]) : decode c pc = .ok (.astore_n 2, 1) := ob1 (op := 77) (fun pc c p h => by unfold Decoder.instr; exact bind_ok h) h
theorem oo_78 {c : ByteArray} {pc : Nat} (h : Pfx c pc [78]) : decode c pc = .ok (.astore_n 3, 1) := ob1 (op := 78) (fun pc c p h => by unfold Decoder.instr; exact bind_ok h) h
theorem oo_79 {c : ByteArray} {pc : Nat} (h : Pfx c pc [79]) : decode c pc = .ok (.iastore, 1) := ob1 (op := 79) (fun pc c p h => by unfold Decoder.instr; exact bind_ok h) h
theorem oo_8 {c : ByteArray} {pc : Nat} (h : Pfx c pc [8]) : decode c pc = .ok (.iconst 5, 1) := ob1 (op := 8) (fun pc c p h => by unfold Decoder.instr; exact bind_ok h) h
theorem oo_80 {c : ByteArray} {pc : Nat} (h : Pfx c pc [80]) : decode c pc = .ok (.lastore, 1) := ob1 (op := 80) (fun pc c p h => by unfold Decoder.instr; exact bind_ok h) h
theorem oo_83 {c : ByteArray} {pc : Nat} (h : Pfx c pc [83]) : decode c pc = .ok (.aastore, 1) := ob1 (op := 83) (fun pc c p h => by unfold Decoder.instr; exact bind_ok h) h
theorem oo_84 {c : ByteArray} {pc : Nat} (h : Pfx c pc [84]) : decode c pc = .ok (.bastore, 1) := ob1 (op := 84) (fun pc c p h => by unfold Decoder.instr; exact bind_ok h) h
theorem oo_87 {c : ByteArray} {pc : Nat} (h : Pfx c pc [87]) : decode c pc = .ok (.pop, 1) := ob1 (op := 87) (fun pc c p h => by unfold Decoder.instr; exact bind_ok h) h
theorem oo_88 {c : ByteArray} {pc : Nat} (h : Pfx c pc [88]) : decode c pc = .ok (.pop2, 1) := ob1 (op := 88) (fun pc c p h => by unfold Decoder.instr; exact bind_ok h) h
theorem oo_89 {c : ByteArray} {pc : Nat} (h : Pfx c pc [89]) : decode c pc = .ok (.dup, 1) := ob1 (op := 89) (fun pc c p h => by unfold Decoder.instr; exact bind_ok h) h
theorem oo_9 {c : ByteArray} {pc : Nat} (h : Pfx c pc [9]) : decode c pc = .ok (.lconst 0, 1) := ob1 (op := 9) (fun pc c p h => by unfold Decoder.instr; exact bind_ok h) h
theorem oo_90 {c : ByteArray} {pc : Nat} (h : Pfx c pc [90]) : decode c pc = .ok (.dup_x1, 1) := ob1 (op := 90) (fun pc c p h => by unfold Decoder.instr; exact bind_ok h) h
theorem oo_92 {c : ByteArray} {pc : Nat} (h : Pfx c pc [92]) : decode c pc = .ok (.dup2, 1) := ob1 (op := 92) (fun pc c p h => by unfold Decoder.instr; exact bind_ok h) h
theorem oo_96 {c : ByteArray} {pc : Nat} (h : Pfx c pc [96]) : decode c pc = .ok (.iadd, 1) := ob1 (op := 96) (fun pc c p h => by unfold Decoder.instr; exact bind_ok h) h
theorem oo_97 {c : ByteArray} {pc : Nat} (h : Pfx c pc [97]) : decode c pc = .ok (.ladd, 1) := ob1 (op := 97) (fun pc c p h => by unfold Decoder.instr; exact bind_ok h) h
def l_dX0_init_0 : List (Nat × List Nat) := [(0, [42]), (1, [183, 0, 1]), (4, [42]), (5, [43]), (6, [181, 0, 7]), (9, [42]), (10, [28]), (11, [181, 0, 13]), (14, [177])]
theorem b_dX0_init_0 : chkB l_dX0_init_0 0 (cX0_init.data.toList.drop 0) = true := by decide +kernel
theorem dX0_init_0 : decode cX0_init 0 = .ok (.aload_n 0, 1) := oo_42 (dl3 b_dX0_init_0 0 rfl)
theorem dX0_init_1 : decode cX0_init 1 = .ok (.invokespecial 1, 3) := oo_183 (b1 := 0) (b2 := 1) rfl (dl3 b_dX0_init_0 1 rfl)
theorem dX0_init_4 : decode cX0_init 4 = .ok (.aload_n 0, 1) := oo_42 (dl3 b_dX0_init_0 2 rfl)
theorem dX0_init_5 : decode cX0_init 5 = .ok (.aload_n 1, 1) := oo_43 (dl3 b_dX0_init_0 3 rfl)
theorem dX0_init_6 : decode cX0_init 6 = .ok (.putfield 7, 3) := oo_181 (b1 := 0) (b2 := 7) rfl (dl3 b_dX0_init_0 4 rfl)
theorem dX0_init_9 : decode cX0_init 9 = .ok (.aload_n 0, 1) := oo_42 (dl3 b_dX0_init_0 5 rfl)
theorem dX0_init_10 : decode cX0_init 10 = .ok (.iload_n 2, 1) := oo_28 (dl3 b_dX0_init_0 6 rfl)
theorem dX0_init_11 : decode cX0_init 11 = .ok (.putfield 13, 3) := oo_181 (b1 := 0) (b2 := 13) rfl (dl3 b_dX0_init_0 7 rfl)
theorem dX0_init_14 : decode cX0_init 14 = .ok (.return_, 1) := oo_177 (dl3 b_dX0_init_0 8 rfl)
def l_dX0_mostShare_0 : List (Nat × List Nat) := [(0, [42]), (1, [180, 0, 17]), (4, [154, 0, 10]), (7, [42]), (8, [180, 0, 13]), (11, [167, 0, 9]), (14, [42]), (15, [180, 0, 13]), (18, [4]), (19, [100]), (20, [172])]
theorem b_dX0_mostShare_0 : chkB l_dX0_mostShare_0 0 (cX0_mostShare.data.toList.drop 0) = true := by decide +kernel
theorem dX0_mostShare_0 : decode cX0_mostShare 0 = .ok (.aload_n 0, 1) := oo_42 (dl3 b_dX0_mostShare_0 0 rfl)
theorem dX0_mostShare_1 : decode cX0_mostShare 1 = .ok (.getfield 17, 3) := oo_180 (b1 := 0) (b2 := 17) rfl (dl3 b_dX0_mostShare_0 1 rfl)
theorem dX0_mostShare_4 : decode cX0_mostShare 4 = .ok (.ifCond .ne 10, 3) := oo_154 (b1 := 0) (b2 := 10) rfl (dl3 b_dX0_mostShare_0 2 rfl)
theorem dX0_mostShare_7 : decode cX0_mostShare 7 = .ok (.aload_n 0, 1) := oo_42 (dl3 b_dX0_mostShare_0 3 rfl)
theorem dX0_mostShare_8 : decode cX0_mostShare 8 = .ok (.getfield 13, 3) := oo_180 (b1 := 0) (b2 := 13) rfl (dl3 b_dX0_mostShare_0 4 rfl)
theorem dX0_mostShare_11 : decode cX0_mostShare 11 = .ok (.goto 9, 3) := oo_167 (b1 := 0) (b2 := 9) rfl (dl3 b_dX0_mostShare_0 5 rfl)
theorem dX0_mostShare_14 : decode cX0_mostShare 14 = .ok (.aload_n 0, 1) := oo_42 (dl3 b_dX0_mostShare_0 6 rfl)
theorem dX0_mostShare_15 : decode cX0_mostShare 15 = .ok (.getfield 13, 3) := oo_180 (b1 := 0) (b2 := 13) rfl (dl3 b_dX0_mostShare_0 7 rfl)
theorem dX0_mostShare_18 : decode cX0_mostShare 18 = .ok (.iconst 1, 1) := oo_4 (dl3 b_dX0_mostShare_0 8 rfl)
theorem dX0_mostShare_19 : decode cX0_mostShare 19 = .ok (.isub, 1) := oo_100 (dl3 b_dX0_mostShare_0 9 rfl)
theorem dX0_mostShare_20 : decode cX0_mostShare 20 = .ok (.ireturn, 1) := oo_172 (dl3 b_dX0_mostShare_0 10 rfl)
set_option maxRecDepth 20000 in
theorem ggX1_init_X2_init : GoodIn wsX1_init wsX2_init := goodIn_r _ [4, 5, 6, 7, 8, 9, 10, 11, 12, 13, 14, 15, 16, 17, 18, 19, 20] rfl (by decide +kernel)
set_option maxRecDepth 20000 in
theorem gX1_init_X2_init : GoodIn wsX1_init (wsX2_init) := ggX1_init_X2_init
def l_dX1_init_0 : List (Nat × List Nat) := [(0, [42]), (1, [27]), (2, [183, 0, 1]), (5, [177])]
theorem b_dX1_init_0 : chkB l_dX1_init_0 0 (cX1_init.data.toList.drop 0) = true := by decide +kernel
theorem dX1_init_0 : decode cX1_init 0 = .ok (.aload_n 0, 1) := oo_42 (dl3 b_dX1_init_0 0 rfl)
theorem dX1_init_1 : decode cX1_init 1 = .ok (.iload_n 1, 1) := oo_27 (dl3 b_dX1_init_0 1 rfl)
theorem dX1_init_2 : decode cX1_init 2 = .ok (.invokespecial 1, 3) := oo_183 (b1 := 0) (b2 := 1) rfl (dl3 b_dX1_init_0 2 rfl)
theorem dX1_init_5 : decode cX1_init 5 = .ok (.return_, 1) := oo_177 (dl3 b_dX1_init_0 3 rfl)
def l_dX1_costsBorne_0 : List (Nat × List Nat) := [(0, [31]), (1, [20, 0, 7]), (4, [109]), (5, [173])]
theorem b_dX1_costsBorne_0 : chkB l_dX1_costsBorne_0 0 (cX1_costsBorne.data.toList.drop 0) = true := by decide +kernel
theorem dX1_costsBorne_0 : decode cX1_costsBorne 0 = .ok (.lload_n 1, 1) := oo_31 (dl3 b_dX1_costsBorne_0 0 rfl)
theorem dX1_costsBorne_1 : decode cX1_costsBorne 1 = .ok (.ldc2_w 7, 3) := oo_20 (b1 := 0) (b2 := 7) rfl (dl3 b_dX1_costsBorne_0 1 rfl)
theorem dX1_costsBorne_4 : decode cX1_costsBorne 4 = .ok (.ldiv, 1) := oo_109 (dl3 b_dX1_costsBorne_0 2 rfl)
theorem dX1_costsBorne_5 : decode cX1_costsBorne 5 = .ok (.lreturn, 1) := oo_173 (dl3 b_dX1_costsBorne_0 3 rfl)
set_option maxRecDepth 20000 in
theorem ggX1_telling_X9_leave : GoodIn wsX1_telling wsX9_leave := goodIn_r _ [5, 6, 16] rfl (by decide +kernel)
set_option maxRecDepth 20000 in
theorem gX1_telling_X9_leave : GoodIn wsX1_telling (wsV RX1 9 RX9 yX9_leave wsX9_leave) := goodIn_app (goodIn_r _ [1, 2, 3, 4] rfl (by decide +kernel)) ggX1_telling_X9_leave
set_option maxRecDepth 20000 in
theorem ggX1_telling_X2_tellingOfAnyGang : GoodIn wsX1_telling wsX2_tellingOfAnyGang := goodIn_r _ [12, 13, 14, 2, 3, 4, 5, 6, 17, 18, 19, 20, 21, 22, 23, 24, 25, 26, 27, 28, 16] rfl (by decide +kernel)
set_option maxRecDepth 20000 in
theorem gX1_telling_X2_tellingOfAnyGang_u14X1 : GoodIn wsX1_telling (va_wsU RX1 14 RX1 "TributePitches$Gang" ⟨"TributePitches$Family", "tellingOfAnyGang", "(LTributePitches$Trace;)I"⟩ yX2_tellingOfAnyGang wsX2_tellingOfAnyGang) := goodIn_app (goodIn_of _ (by decide +kernel)) ggX1_telling_X2_tellingOfAnyGang
set_option maxRecDepth 20000 in
theorem gX1_telling_X2_tellingOfAnyGang_u14X4 : GoodIn wsX1_telling (va_wsU RX1 14 RX4 "TributePitches$Gang" ⟨"TributePitches$Family", "tellingOfAnyGang", "(LTributePitches$Trace;)I"⟩ yX2_tellingOfAnyGang wsX2_tellingOfAnyGang) := goodIn_app (goodIn_of _ (by decide +kernel)) ggX1_telling_X2_tellingOfAnyGang
def l_dX1_telling_0 : List (Nat × List Nat) := [(0, [43]), (1, [5]), (2, [182, 0, 9]), (5, [16, 10]), (7, [42]), (8, [43]), (9, [182, 0, 14]), (12, [96]), (13, [172])]
theorem b_dX1_telling_0 : chkB l_dX1_telling_0 0 (cX1_telling.data.toList.drop 0) = true := by decide +kernel
theorem dX1_telling_0 : decode cX1_telling 0 = .ok (.aload_n 1, 1) := oo_43 (dl3 b_dX1_telling_0 0 rfl)
theorem dX1_telling_1 : decode cX1_telling 1 = .ok (.iconst 2, 1) := oo_5 (dl3 b_dX1_telling_0 1 rfl)
theorem dX1_telling_2 : decode cX1_telling 2 = .ok (.invokevirtual 9, 3) := oo_182 (b1 := 0) (b2 := 9) rfl (dl3 b_dX1_telling_0 2 rfl)
theorem dX1_telling_5 : decode cX1_telling 5 = .ok (.bipush 10, 2) := oo_16 (b1 := 10) rfl (dl3 b_dX1_telling_0 3 rfl)
theorem dX1_telling_7 : decode cX1_telling 7 = .ok (.aload_n 0, 1) := oo_42 (dl3 b_dX1_telling_0 4 rfl)
theorem dX1_telling_8 : decode cX1_telling 8 = .ok (.aload_n 1, 1) := oo_43 (dl3 b_dX1_telling_0 5 rfl)
theorem dX1_telling_9 : decode cX1_telling 9 = .ok (.invokevirtual 14, 3) := oo_182 (b1 := 0) (b2 := 14) rfl (dl3 b_dX1_telling_0 6 rfl)
theorem dX1_telling_12 : decode cX1_telling 12 = .ok (.iadd, 1) := oo_96 (dl3 b_dX1_telling_0 7 rfl)
theorem dX1_telling_13 : decode cX1_telling 13 = .ok (.ireturn, 1) := oo_172 (dl3 b_dX1_telling_0 8 rfl)
set_option maxRecDepth 20000 in
theorem ggX1_greeting_X9_leave : GoodIn wsX1_greeting wsX9_leave := goodIn_r _ [5, 6, 7] rfl (by decide +kernel)
set_option maxRecDepth 20000 in
theorem gX1_greeting_X9_leave : GoodIn wsX1_greeting (wsV RX1 9 RX9 yX9_leave wsX9_leave) := goodIn_app (goodIn_r _ [1, 2, 3, 4] rfl (by decide +kernel)) ggX1_greeting_X9_leave
def l_dX1_greeting_0 : List (Nat × List Nat) := [(0, [43]), (1, [8]), (2, [182, 0, 9]), (5, [16, 6]), (7, [172])]
theorem b_dX1_greeting_0 : chkB l_dX1_greeting_0 0 (cX1_greeting.data.toList.drop 0) = true := by decide +kernel
theorem dX1_greeting_0 : decode cX1_greeting 0 = .ok (.aload_n 1, 1) := oo_43 (dl3 b_dX1_greeting_0 0 rfl)
theorem dX1_greeting_1 : decode cX1_greeting 1 = .ok (.iconst 5, 1) := oo_8 (dl3 b_dX1_greeting_0 1 rfl)
theorem dX1_greeting_2 : decode cX1_greeting 2 = .ok (.invokevirtual 9, 3) := oo_182 (b1 := 0) (b2 := 9) rfl (dl3 b_dX1_greeting_0 2 rfl)
theorem dX1_greeting_5 : decode cX1_greeting 5 = .ok (.bipush 6, 2) := oo_16 (b1 := 6) rfl (dl3 b_dX1_greeting_0 3 rfl)
theorem dX1_greeting_7 : decode cX1_greeting 7 = .ok (.ireturn, 1) := oo_172 (dl3 b_dX1_greeting_0 4 rfl)
def l_dX2_init_0 : List (Nat × List Nat) := [(0, [42]), (1, [183, 0, 3]), (4, [42]), (5, [27]), (6, [181, 0, 9]), (9, [177])]
theorem b_dX2_init_0 : chkB l_dX2_init_0 0 (cX2_init.data.toList.drop 0) = true := by decide +kernel
theorem dX2_init_0 : decode cX2_init 0 = .ok (.aload_n 0, 1) := oo_42 (dl3 b_dX2_init_0 0 rfl)
theorem dX2_init_1 : decode cX2_init 1 = .ok (.invokespecial 3, 3) := oo_183 (b1 := 0) (b2 := 3) rfl (dl3 b_dX2_init_0 1 rfl)
theorem dX2_init_4 : decode cX2_init 4 = .ok (.aload_n 0, 1) := oo_42 (dl3 b_dX2_init_0 2 rfl)
theorem dX2_init_5 : decode cX2_init 5 = .ok (.iload_n 1, 1) := oo_27 (dl3 b_dX2_init_0 3 rfl)
theorem dX2_init_6 : decode cX2_init 6 = .ok (.putfield 9, 3) := oo_181 (b1 := 0) (b2 := 9) rfl (dl3 b_dX2_init_0 4 rfl)
theorem dX2_init_9 : decode cX2_init 9 = .ok (.return_, 1) := oo_177 (dl3 b_dX2_init_0 5 rfl)
def l_dX2_costsBorne_0 : List (Nat × List Nat) := [(0, [31]), (1, [173])]
theorem b_dX2_costsBorne_0 : chkB l_dX2_costsBorne_0 0 (cX2_costsBorne.data.toList.drop 0) = true := by decide +kernel
theorem dX2_costsBorne_0 : decode cX2_costsBorne 0 = .ok (.lload_n 1, 1) := oo_31 (dl3 b_dX2_costsBorne_0 0 rfl)
theorem dX2_costsBorne_1 : decode cX2_costsBorne 1 = .ok (.lreturn, 1) := oo_173 (dl3 b_dX2_costsBorne_0 1 rfl)
def l_dX2_debtTaken_0 : List (Nat × List Nat) := [(0, [42]), (1, [180, 0, 15]), (4, [173])]
theorem b_dX2_debtTaken_0 : chkB l_dX2_debtTaken_0 0 (cX2_debtTaken.data.toList.drop 0) = true := by decide +kernel
theorem dX2_debtTaken_0 : decode cX2_debtTaken 0 = .ok (.aload_n 0, 1) := oo_42 (dl3 b_dX2_debtTaken_0 0 rfl)
theorem dX2_debtTaken_1 : decode cX2_debtTaken 1 = .ok (.getfield 15, 3) := oo_180 (b1 := 0) (b2 := 15) rfl (dl3 b_dX2_debtTaken_0 1 rfl)
theorem dX2_debtTaken_4 : decode cX2_debtTaken 4 = .ok (.lreturn, 1) := oo_173 (dl3 b_dX2_debtTaken_0 2 rfl)
set_option maxRecDepth 20000 in
theorem ggX2_telling_X2_tellingOfAnyGang : GoodIn wsX2_telling wsX2_tellingOfAnyGang := goodIn_r _ [6, 7, 8, 9, 10, 11, 12, 13, 17, 18, 19, 20, 21, 22, 23, 24, 25, 26, 27, 28, 29] rfl (by decide +kernel)
set_option maxRecDepth 20000 in
theorem gX2_telling_X2_tellingOfAnyGang_u19X1 : GoodIn wsX2_telling (va_wsU RX2 19 RX1 "TributePitches$Gang" ⟨"TributePitches$Gang", "tellingOfAnyGang", "(LTributePitches$Trace;)I"⟩ yX2_tellingOfAnyGang wsX2_tellingOfAnyGang) := goodIn_app (goodIn_of _ (by decide +kernel)) ggX2_telling_X2_tellingOfAnyGang
set_option maxRecDepth 20000 in
theorem gX2_telling_X2_tellingOfAnyGang : GoodIn wsX2_telling (wsV RX2 19 RX2 yX2_tellingOfAnyGang wsX2_tellingOfAnyGang) := goodIn_app (goodIn_r _ [14, 4, 15, 5] rfl (by decide +kernel)) ggX2_telling_X2_tellingOfAnyGang
set_option maxRecDepth 20000 in
theorem gX2_telling_X2_tellingOfAnyGang_u19X4 : GoodIn wsX2_telling (va_wsU RX2 19 RX4 "TributePitches$Gang" ⟨"TributePitches$Gang", "tellingOfAnyGang", "(LTributePitches$Trace;)I"⟩ yX2_tellingOfAnyGang wsX2_tellingOfAnyGang) := goodIn_app (goodIn_of _ (by decide +kernel)) ggX2_telling_X2_tellingOfAnyGang
def l_dX2_telling_0 : List (Nat × List Nat) := [(0, [42]), (1, [43]), (2, [182, 0, 19]), (5, [172])]
theorem b_dX2_telling_0 : chkB l_dX2_telling_0 0 (cX2_telling.data.toList.drop 0) = true := by decide +kernel
theorem dX2_telling_0 : decode cX2_telling 0 = .ok (.aload_n 0, 1) := oo_42 (dl3 b_dX2_telling_0 0 rfl)
theorem dX2_telling_1 : decode cX2_telling 1 = .ok (.aload_n 1, 1) := oo_43 (dl3 b_dX2_telling_0 1 rfl)
theorem dX2_telling_2 : decode cX2_telling 2 = .ok (.invokevirtual 19, 3) := oo_182 (b1 := 0) (b2 := 19) rfl (dl3 b_dX2_telling_0 2 rfl)
theorem dX2_telling_5 : decode cX2_telling 5 = .ok (.ireturn, 1) := oo_172 (dl3 b_dX2_telling_0 3 rfl)
set_option maxRecDepth 20000 in
theorem ggX2_tellingOfAnyGang_X9_leave : GoodIn wsX2_tellingOfAnyGang wsX9_leave := goodIn_r _ [6, 7, 20] rfl (by decide +kernel)
set_option maxRecDepth 20000 in
theorem gX2_tellingOfAnyGang_X9_leave : GoodIn wsX2_tellingOfAnyGang (wsV RX2 23 RX9 yX9_leave wsX9_leave) := goodIn_app (goodIn_r _ [2, 3, 4, 5] rfl (by decide +kernel)) ggX2_tellingOfAnyGang_X9_leave
def l_dX2_tellingOfAnyGang_0 : List (Nat × List Nat) := [(0, [43]), (1, [4]), (2, [182, 0, 23]), (5, [42]), (6, [180, 0, 29]), (9, [172])]
theorem b_dX2_tellingOfAnyGang_0 : chkB l_dX2_tellingOfAnyGang_0 0 (cX2_tellingOfAnyGang.data.toList.drop 0) = true := by decide +kernel
theorem dX2_tellingOfAnyGang_0 : decode cX2_tellingOfAnyGang 0 = .ok (.aload_n 1, 1) := oo_43 (dl3 b_dX2_tellingOfAnyGang_0 0 rfl)
theorem dX2_tellingOfAnyGang_1 : decode cX2_tellingOfAnyGang 1 = .ok (.iconst 1, 1) := oo_4 (dl3 b_dX2_tellingOfAnyGang_0 1 rfl)
theorem dX2_tellingOfAnyGang_2 : decode cX2_tellingOfAnyGang 2 = .ok (.invokevirtual 23, 3) := oo_182 (b1 := 0) (b2 := 23) rfl (dl3 b_dX2_tellingOfAnyGang_0 2 rfl)
theorem dX2_tellingOfAnyGang_5 : decode cX2_tellingOfAnyGang 5 = .ok (.aload_n 0, 1) := oo_42 (dl3 b_dX2_tellingOfAnyGang_0 3 rfl)
theorem dX2_tellingOfAnyGang_6 : decode cX2_tellingOfAnyGang 6 = .ok (.getfield 29, 3) := oo_180 (b1 := 0) (b2 := 29) rfl (dl3 b_dX2_tellingOfAnyGang_0 4 rfl)
theorem dX2_tellingOfAnyGang_9 : decode cX2_tellingOfAnyGang 9 = .ok (.ireturn, 1) := oo_172 (dl3 b_dX2_tellingOfAnyGang_0 5 rfl)
set_option maxRecDepth 20000 in
theorem ggX2_greeting_X9_leave : GoodIn wsX2_greeting wsX9_leave := goodIn_r _ [6, 7, 20] rfl (by decide +kernel)
set_option maxRecDepth 20000 in
theorem gX2_greeting_X9_leave : GoodIn wsX2_greeting (wsV RX2 23 RX9 yX9_leave wsX9_leave) := goodIn_app (goodIn_r _ [2, 3, 4, 5] rfl (by decide +kernel)) ggX2_greeting_X9_leave
def l_dX2_greeting_0 : List (Nat × List Nat) := [(0, [43]), (1, [7]), (2, [182, 0, 23]), (5, [16, 10]), (7, [42]), (8, [180, 0, 9]), (11, [104]), (12, [3]), (13, [96]), (14, [172])]
theorem b_dX2_greeting_0 : chkB l_dX2_greeting_0 0 (cX2_greeting.data.toList.drop 0) = true := by decide +kernel
theorem dX2_greeting_0 : decode cX2_greeting 0 = .ok (.aload_n 1, 1) := oo_43 (dl3 b_dX2_greeting_0 0 rfl)
theorem dX2_greeting_1 : decode cX2_greeting 1 = .ok (.iconst 4, 1) := oo_7 (dl3 b_dX2_greeting_0 1 rfl)
theorem dX2_greeting_2 : decode cX2_greeting 2 = .ok (.invokevirtual 23, 3) := oo_182 (b1 := 0) (b2 := 23) rfl (dl3 b_dX2_greeting_0 2 rfl)
theorem dX2_greeting_5 : decode cX2_greeting 5 = .ok (.bipush 10, 2) := oo_16 (b1 := 10) rfl (dl3 b_dX2_greeting_0 3 rfl)
theorem dX2_greeting_7 : decode cX2_greeting 7 = .ok (.aload_n 0, 1) := oo_42 (dl3 b_dX2_greeting_0 4 rfl)
theorem dX2_greeting_8 : decode cX2_greeting 8 = .ok (.getfield 9, 3) := oo_180 (b1 := 0) (b2 := 9) rfl (dl3 b_dX2_greeting_0 5 rfl)
theorem dX2_greeting_11 : decode cX2_greeting 11 = .ok (.imul, 1) := oo_104 (dl3 b_dX2_greeting_0 6 rfl)
theorem dX2_greeting_12 : decode cX2_greeting 12 = .ok (.iconst 0, 1) := oo_3 (dl3 b_dX2_greeting_0 7 rfl)
theorem dX2_greeting_13 : decode cX2_greeting 13 = .ok (.iadd, 1) := oo_96 (dl3 b_dX2_greeting_0 8 rfl)
theorem dX2_greeting_14 : decode cX2_greeting 14 = .ok (.ireturn, 1) := oo_172 (dl3 b_dX2_greeting_0 9 rfl)
set_option maxRecDepth 20000 in
theorem ggX3_init_J7_fill_53178 : GoodIn wsX3_init wsJ7_fill_53178 := goodIn_r _ [13] rfl (by decide +kernel)
set_option maxRecDepth 20000 in
theorem gX3_init_J7_fill_53178 : GoodIn wsX3_init (va_wsS RX3 28 yJ7_fill_53178 wsJ7_fill_53178) := goodIn_app (goodIn_r _ [10, 11, 12] rfl (by decide +kernel)) ggX3_init_J7_fill_53178
def l_dX3_init_0 : List (Nat × List Nat) := [(0, [42]), (1, [183, 0, 5]), (4, [42]), (5, [16, 48]), (7, [188, 10]), (9, [181, 0, 11]), (12, [42]), (13, [16, 48]), (15, [188, 10]), (17, [181, 0, 15]), (20, [42]), (21, [16, 48]), (23, [188, 10]), (25, [181, 0, 18]), (28, [42]), (29, [16, 48]), (31, [188, 10]), (33, [181, 0, 21]), (36, [42]), (37, [17, 3, 232]), (40, [181, 0, 24]), (43, [42]), (44, [180, 0, 15]), (47, [17, 3, 232]), (50, [184, 0, 28]), (53, [177])]
theorem b_dX3_init_0 : chkB l_dX3_init_0 0 (cX3_init.data.toList.drop 0) = true := by decide +kernel
theorem dX3_init_0 : decode cX3_init 0 = .ok (.aload_n 0, 1) := oo_42 (dl3 b_dX3_init_0 0 rfl)
theorem dX3_init_1 : decode cX3_init 1 = .ok (.invokespecial 5, 3) := oo_183 (b1 := 0) (b2 := 5) rfl (dl3 b_dX3_init_0 1 rfl)
theorem dX3_init_4 : decode cX3_init 4 = .ok (.aload_n 0, 1) := oo_42 (dl3 b_dX3_init_0 2 rfl)
theorem dX3_init_5 : decode cX3_init 5 = .ok (.bipush 48, 2) := oo_16 (b1 := 48) rfl (dl3 b_dX3_init_0 3 rfl)
theorem dX3_init_7 : decode cX3_init 7 = .ok (.newarray .int, 2) := oo_188_10 (dl3 b_dX3_init_0 4 rfl)
theorem dX3_init_9 : decode cX3_init 9 = .ok (.putfield 11, 3) := oo_181 (b1 := 0) (b2 := 11) rfl (dl3 b_dX3_init_0 5 rfl)
theorem dX3_init_12 : decode cX3_init 12 = .ok (.aload_n 0, 1) := oo_42 (dl3 b_dX3_init_0 6 rfl)
theorem dX3_init_13 : decode cX3_init 13 = .ok (.bipush 48, 2) := oo_16 (b1 := 48) rfl (dl3 b_dX3_init_0 7 rfl)
theorem dX3_init_15 : decode cX3_init 15 = .ok (.newarray .int, 2) := oo_188_10 (dl3 b_dX3_init_0 8 rfl)
theorem dX3_init_17 : decode cX3_init 17 = .ok (.putfield 15, 3) := oo_181 (b1 := 0) (b2 := 15) rfl (dl3 b_dX3_init_0 9 rfl)
theorem dX3_init_20 : decode cX3_init 20 = .ok (.aload_n 0, 1) := oo_42 (dl3 b_dX3_init_0 10 rfl)
theorem dX3_init_21 : decode cX3_init 21 = .ok (.bipush 48, 2) := oo_16 (b1 := 48) rfl (dl3 b_dX3_init_0 11 rfl)
theorem dX3_init_23 : decode cX3_init 23 = .ok (.newarray .int, 2) := oo_188_10 (dl3 b_dX3_init_0 12 rfl)
theorem dX3_init_25 : decode cX3_init 25 = .ok (.putfield 18, 3) := oo_181 (b1 := 0) (b2 := 18) rfl (dl3 b_dX3_init_0 13 rfl)
theorem dX3_init_28 : decode cX3_init 28 = .ok (.aload_n 0, 1) := oo_42 (dl3 b_dX3_init_0 14 rfl)
theorem dX3_init_29 : decode cX3_init 29 = .ok (.bipush 48, 2) := oo_16 (b1 := 48) rfl (dl3 b_dX3_init_0 15 rfl)
theorem dX3_init_31 : decode cX3_init 31 = .ok (.newarray .int, 2) := oo_188_10 (dl3 b_dX3_init_0 16 rfl)
theorem dX3_init_33 : decode cX3_init 33 = .ok (.putfield 21, 3) := oo_181 (b1 := 0) (b2 := 21) rfl (dl3 b_dX3_init_0 17 rfl)
theorem dX3_init_36 : decode cX3_init 36 = .ok (.aload_n 0, 1) := oo_42 (dl3 b_dX3_init_0 18 rfl)
theorem dX3_init_37 : decode cX3_init 37 = .ok (.sipush 1000, 3) := oo_17 (b1 := 3) (b2 := 232) rfl (dl3 b_dX3_init_0 19 rfl)
theorem dX3_init_40 : decode cX3_init 40 = .ok (.putfield 24, 3) := oo_181 (b1 := 0) (b2 := 24) rfl (dl3 b_dX3_init_0 20 rfl)
theorem dX3_init_43 : decode cX3_init 43 = .ok (.aload_n 0, 1) := oo_42 (dl3 b_dX3_init_0 21 rfl)
theorem dX3_init_44 : decode cX3_init 44 = .ok (.getfield 15, 3) := oo_180 (b1 := 0) (b2 := 15) rfl (dl3 b_dX3_init_0 22 rfl)
theorem dX3_init_47 : decode cX3_init 47 = .ok (.sipush 1000, 3) := oo_17 (b1 := 3) (b2 := 232) rfl (dl3 b_dX3_init_0 23 rfl)
theorem dX3_init_50 : decode cX3_init 50 = .ok (.invokestatic 28, 3) := oo_184 (b1 := 0) (b2 := 28) rfl (dl3 b_dX3_init_0 24 rfl)
theorem dX3_init_53 : decode cX3_init 53 = .ok (.return_, 1) := oo_177 (dl3 b_dX3_init_0 25 rfl)
set_option maxRecDepth 20000 in
theorem ggX3_hasSquare_X10_isWithin : GoodIn wsX3_hasSquare wsX10_isWithin := goodIn_r _ [3] rfl (by decide +kernel)
set_option maxRecDepth 20000 in
theorem gX3_hasSquare_X10_isWithin_n34 : GoodIn wsX3_hasSquare (wsX10_isWithin) := ggX3_hasSquare_X10_isWithin
def l_dX3_hasSquare_0 : List (Nat × List Nat) := [(0, [26]), (1, [3]), (2, [16, 7]), (4, [184, 0, 34]), (7, [153, 0, 16]), (10, [27]), (11, [3]), (12, [8]), (13, [184, 0, 34]), (16, [153, 0, 7]), (19, [4]), (20, [167, 0, 4]), (23, [3]), (24, [172])]
theorem b_dX3_hasSquare_0 : chkB l_dX3_hasSquare_0 0 (cX3_hasSquare.data.toList.drop 0) = true := by decide +kernel
theorem dX3_hasSquare_0 : decode cX3_hasSquare 0 = .ok (.iload_n 0, 1) := oo_26 (dl3 b_dX3_hasSquare_0 0 rfl)
theorem dX3_hasSquare_1 : decode cX3_hasSquare 1 = .ok (.iconst 0, 1) := oo_3 (dl3 b_dX3_hasSquare_0 1 rfl)
theorem dX3_hasSquare_2 : decode cX3_hasSquare 2 = .ok (.bipush 7, 2) := oo_16 (b1 := 7) rfl (dl3 b_dX3_hasSquare_0 2 rfl)
theorem dX3_hasSquare_4 : decode cX3_hasSquare 4 = .ok (.invokestatic 34, 3) := oo_184 (b1 := 0) (b2 := 34) rfl (dl3 b_dX3_hasSquare_0 3 rfl)
theorem dX3_hasSquare_7 : decode cX3_hasSquare 7 = .ok (.ifCond .eq 16, 3) := oo_153 (b1 := 0) (b2 := 16) rfl (dl3 b_dX3_hasSquare_0 4 rfl)
theorem dX3_hasSquare_10 : decode cX3_hasSquare 10 = .ok (.iload_n 1, 1) := oo_27 (dl3 b_dX3_hasSquare_0 5 rfl)
theorem dX3_hasSquare_11 : decode cX3_hasSquare 11 = .ok (.iconst 0, 1) := oo_3 (dl3 b_dX3_hasSquare_0 6 rfl)
theorem dX3_hasSquare_12 : decode cX3_hasSquare 12 = .ok (.iconst 5, 1) := oo_8 (dl3 b_dX3_hasSquare_0 7 rfl)
theorem dX3_hasSquare_13 : decode cX3_hasSquare 13 = .ok (.invokestatic 34, 3) := oo_184 (b1 := 0) (b2 := 34) rfl (dl3 b_dX3_hasSquare_0 8 rfl)
theorem dX3_hasSquare_16 : decode cX3_hasSquare 16 = .ok (.ifCond .eq 7, 3) := oo_153 (b1 := 0) (b2 := 7) rfl (dl3 b_dX3_hasSquare_0 9 rfl)
theorem dX3_hasSquare_19 : decode cX3_hasSquare 19 = .ok (.iconst 1, 1) := oo_4 (dl3 b_dX3_hasSquare_0 10 rfl)
theorem dX3_hasSquare_20 : decode cX3_hasSquare 20 = .ok (.goto 4, 3) := oo_167 (b1 := 0) (b2 := 4) rfl (dl3 b_dX3_hasSquare_0 11 rfl)
theorem dX3_hasSquare_23 : decode cX3_hasSquare 23 = .ok (.iconst 0, 1) := oo_3 (dl3 b_dX3_hasSquare_0 12 rfl)
theorem dX3_hasSquare_24 : decode cX3_hasSquare 24 = .ok (.ireturn, 1) := oo_172 (dl3 b_dX3_hasSquare_0 13 rfl)
def l_dX3_numberOf_0 : List (Nat × List Nat) := [(0, [16, 8]), (2, [27]), (3, [104]), (4, [26]), (5, [96]), (6, [172])]
theorem b_dX3_numberOf_0 : chkB l_dX3_numberOf_0 0 (cX3_numberOf.data.toList.drop 0) = true := by decide +kernel
theorem dX3_numberOf_0 : decode cX3_numberOf 0 = .ok (.bipush 8, 2) := oo_16 (b1 := 8) rfl (dl3 b_dX3_numberOf_0 0 rfl)
theorem dX3_numberOf_2 : decode cX3_numberOf 2 = .ok (.iload_n 1, 1) := oo_27 (dl3 b_dX3_numberOf_0 1 rfl)
theorem dX3_numberOf_3 : decode cX3_numberOf 3 = .ok (.imul, 1) := oo_104 (dl3 b_dX3_numberOf_0 2 rfl)
theorem dX3_numberOf_4 : decode cX3_numberOf 4 = .ok (.iload_n 0, 1) := oo_26 (dl3 b_dX3_numberOf_0 3 rfl)
theorem dX3_numberOf_5 : decode cX3_numberOf 5 = .ok (.iadd, 1) := oo_96 (dl3 b_dX3_numberOf_0 4 rfl)
theorem dX3_numberOf_6 : decode cX3_numberOf 6 = .ok (.ireturn, 1) := oo_172 (dl3 b_dX3_numberOf_0 5 rfl)
def l_dX3_beginTrial_0 : List (Nat × List Nat) := [(0, [42]), (1, [180, 0, 11]), (4, [3]), (5, [42]), (6, [180, 0, 18]), (9, [3]), (10, [16, 48]), (12, [184, 0, 38]), (15, [42]), (16, [180, 0, 15]), (19, [3]), (20, [42]), (21, [180, 0, 21]), (24, [3]), (25, [16, 48]), (27, [184, 0, 38]), (30, [177])]
theorem b_dX3_beginTrial_0 : chkB l_dX3_beginTrial_0 0 (cX3_beginTrial.data.toList.drop 0) = true := by decide +kernel
theorem dX3_beginTrial_0 : decode cX3_beginTrial 0 = .ok (.aload_n 0, 1) := oo_42 (dl3 b_dX3_beginTrial_0 0 rfl)
theorem dX3_beginTrial_1 : decode cX3_beginTrial 1 = .ok (.getfield 11, 3) := oo_180 (b1 := 0) (b2 := 11) rfl (dl3 b_dX3_beginTrial_0 1 rfl)
theorem dX3_beginTrial_4 : decode cX3_beginTrial 4 = .ok (.iconst 0, 1) := oo_3 (dl3 b_dX3_beginTrial_0 2 rfl)
theorem dX3_beginTrial_5 : decode cX3_beginTrial 5 = .ok (.aload_n 0, 1) := oo_42 (dl3 b_dX3_beginTrial_0 3 rfl)
theorem dX3_beginTrial_6 : decode cX3_beginTrial 6 = .ok (.getfield 18, 3) := oo_180 (b1 := 0) (b2 := 18) rfl (dl3 b_dX3_beginTrial_0 4 rfl)
theorem dX3_beginTrial_9 : decode cX3_beginTrial 9 = .ok (.iconst 0, 1) := oo_3 (dl3 b_dX3_beginTrial_0 5 rfl)
theorem dX3_beginTrial_10 : decode cX3_beginTrial 10 = .ok (.bipush 48, 2) := oo_16 (b1 := 48) rfl (dl3 b_dX3_beginTrial_0 6 rfl)
theorem dX3_beginTrial_12 : decode cX3_beginTrial 12 = .ok (.invokestatic 38, 3) := oo_184 (b1 := 0) (b2 := 38) rfl (dl3 b_dX3_beginTrial_0 7 rfl)
theorem dX3_beginTrial_15 : decode cX3_beginTrial 15 = .ok (.aload_n 0, 1) := oo_42 (dl3 b_dX3_beginTrial_0 8 rfl)
theorem dX3_beginTrial_16 : decode cX3_beginTrial 16 = .ok (.getfield 15, 3) := oo_180 (b1 := 0) (b2 := 15) rfl (dl3 b_dX3_beginTrial_0 9 rfl)
theorem dX3_beginTrial_19 : decode cX3_beginTrial 19 = .ok (.iconst 0, 1) := oo_3 (dl3 b_dX3_beginTrial_0 10 rfl)
theorem dX3_beginTrial_20 : decode cX3_beginTrial 20 = .ok (.aload_n 0, 1) := oo_42 (dl3 b_dX3_beginTrial_0 11 rfl)
theorem dX3_beginTrial_21 : decode cX3_beginTrial 21 = .ok (.getfield 21, 3) := oo_180 (b1 := 0) (b2 := 21) rfl (dl3 b_dX3_beginTrial_0 12 rfl)
theorem dX3_beginTrial_24 : decode cX3_beginTrial 24 = .ok (.iconst 0, 1) := oo_3 (dl3 b_dX3_beginTrial_0 13 rfl)
theorem dX3_beginTrial_25 : decode cX3_beginTrial 25 = .ok (.bipush 48, 2) := oo_16 (b1 := 48) rfl (dl3 b_dX3_beginTrial_0 14 rfl)
theorem dX3_beginTrial_27 : decode cX3_beginTrial 27 = .ok (.invokestatic 38, 3) := oo_184 (b1 := 0) (b2 := 38) rfl (dl3 b_dX3_beginTrial_0 15 rfl)
theorem dX3_beginTrial_30 : decode cX3_beginTrial 30 = .ok (.return_, 1) := oo_177 (dl3 b_dX3_beginTrial_0 16 rfl)
def l_dX3_tryCommon_0 : List (Nat × List Nat) := [(0, [42]), (1, [180, 0, 18]), (4, [27]), (5, [42]), (6, [180, 0, 18]), (9, [27]), (10, [46]), (11, [28]), (12, [184, 0, 44]), (15, [79]), (16, [42]), (17, [180, 0, 21]), (20, [27]), (21, [42]), (22, [180, 0, 21]), (25, [27]), (26, [46]), (27, [29]), (28, [184, 0, 50]), (31, [79]), (32, [177])]
theorem b_dX3_tryCommon_0 : chkB l_dX3_tryCommon_0 0 (cX3_tryCommon.data.toList.drop 0) = true := by decide +kernel
theorem dX3_tryCommon_0 : decode cX3_tryCommon 0 = .ok (.aload_n 0, 1) := oo_42 (dl3 b_dX3_tryCommon_0 0 rfl)
theorem dX3_tryCommon_1 : decode cX3_tryCommon 1 = .ok (.getfield 18, 3) := oo_180 (b1 := 0) (b2 := 18) rfl (dl3 b_dX3_tryCommon_0 1 rfl)
theorem dX3_tryCommon_4 : decode cX3_tryCommon 4 = .ok (.iload_n 1, 1) := oo_27 (dl3 b_dX3_tryCommon_0 2 rfl)
theorem dX3_tryCommon_5 : decode cX3_tryCommon 5 = .ok (.aload_n 0, 1) := oo_42 (dl3 b_dX3_tryCommon_0 3 rfl)
theorem dX3_tryCommon_6 : decode cX3_tryCommon 6 = .ok (.getfield 18, 3) := oo_180 (b1 := 0) (b2 := 18) rfl (dl3 b_dX3_tryCommon_0 4 rfl)
theorem dX3_tryCommon_9 : decode cX3_tryCommon 9 = .ok (.iload_n 1, 1) := oo_27 (dl3 b_dX3_tryCommon_0 5 rfl)
theorem dX3_tryCommon_10 : decode cX3_tryCommon 10 = .ok (.iaload, 1) := oo_46 (dl3 b_dX3_tryCommon_0 6 rfl)
theorem dX3_tryCommon_11 : decode cX3_tryCommon 11 = .ok (.iload_n 2, 1) := oo_28 (dl3 b_dX3_tryCommon_0 7 rfl)
theorem dX3_tryCommon_12 : decode cX3_tryCommon 12 = .ok (.invokestatic 44, 3) := oo_184 (b1 := 0) (b2 := 44) rfl (dl3 b_dX3_tryCommon_0 8 rfl)
theorem dX3_tryCommon_15 : decode cX3_tryCommon 15 = .ok (.iastore, 1) := oo_79 (dl3 b_dX3_tryCommon_0 9 rfl)
theorem dX3_tryCommon_16 : decode cX3_tryCommon 16 = .ok (.aload_n 0, 1) := oo_42 (dl3 b_dX3_tryCommon_0 10 rfl)
theorem dX3_tryCommon_17 : decode cX3_tryCommon 17 = .ok (.getfield 21, 3) := oo_180 (b1 := 0) (b2 := 21) rfl (dl3 b_dX3_tryCommon_0 11 rfl)
theorem dX3_tryCommon_20 : decode cX3_tryCommon 20 = .ok (.iload_n 1, 1) := oo_27 (dl3 b_dX3_tryCommon_0 12 rfl)
theorem dX3_tryCommon_21 : decode cX3_tryCommon 21 = .ok (.aload_n 0, 1) := oo_42 (dl3 b_dX3_tryCommon_0 13 rfl)
theorem dX3_tryCommon_22 : decode cX3_tryCommon 22 = .ok (.getfield 21, 3) := oo_180 (b1 := 0) (b2 := 21) rfl (dl3 b_dX3_tryCommon_0 14 rfl)
theorem dX3_tryCommon_25 : decode cX3_tryCommon 25 = .ok (.iload_n 1, 1) := oo_27 (dl3 b_dX3_tryCommon_0 15 rfl)
theorem dX3_tryCommon_26 : decode cX3_tryCommon 26 = .ok (.iaload, 1) := oo_46 (dl3 b_dX3_tryCommon_0 16 rfl)
theorem dX3_tryCommon_27 : decode cX3_tryCommon 27 = .ok (.iload_n 3, 1) := oo_29 (dl3 b_dX3_tryCommon_0 17 rfl)
theorem dX3_tryCommon_28 : decode cX3_tryCommon 28 = .ok (.invokestatic 50, 3) := oo_184 (b1 := 0) (b2 := 50) rfl (dl3 b_dX3_tryCommon_0 18 rfl)
theorem dX3_tryCommon_31 : decode cX3_tryCommon 31 = .ok (.iastore, 1) := oo_79 (dl3 b_dX3_tryCommon_0 19 rfl)
theorem dX3_tryCommon_32 : decode cX3_tryCommon 32 = .ok (.return_, 1) := oo_177 (dl3 b_dX3_tryCommon_0 20 rfl)
set_option maxRecDepth 20000 in
theorem ggX3_endTrial_X3_narrowTrial : GoodIn wsX3_endTrial wsX3_narrowTrial := goodIn_r _ [14, 15, 16, 17, 13, 18, 1, 2, 19, 20, 21, 22, 23, 24, 25, 26, 27, 28, 29, 30, 31, 32, 33, 34] rfl (by decide +kernel)
set_option maxRecDepth 20000 in
theorem gX3_endTrial_X3_narrowTrial : GoodIn wsX3_endTrial (wsV RX3 53 RX3 yX3_narrowTrial wsX3_narrowTrial) := goodIn_app (goodIn_r _ [10, 11, 12, 13] rfl (by decide +kernel)) ggX3_endTrial_X3_narrowTrial
def l_dX3_endTrial_0 : List (Nat × List Nat) := [(0, [42]), (1, [27]), (2, [182, 0, 53]), (5, [3]), (6, [61]), (7, [3]), (8, [62]), (9, [29]), (10, [16, 48]), (12, [162, 0, 60]), (15, [42]), (16, [180, 0, 18]), (19, [29]), (20, [46]), (21, [42]), (22, [180, 0, 21]), (25, [29]), (26, [46]), (27, [164, 0, 6]), (30, [16, 253]), (32, [172]), (33, [42]), (34, [180, 0, 18]), (37, [29]), (38, [46]), (39, [42]), (40, [180, 0, 11]), (43, [29]), (44, [46]), (45, [160, 0, 18]), (48, [42]), (49, [180, 0, 21]), (52, [29]), (53, [46]), (54, [42]), (55, [180, 0, 15]), (58, [29]), (59, [46]), (60, [159, 0, 6]), (63, [132, 2, 1]), (66, [132, 3, 1]), (69, [167, 255, 196]), (72, [42]), (73, [180, 0, 18]), (76, [3]), (77, [42]), (78, [180, 0, 11]), (81, [3]), (82, [16, 48]), (84, [184, 0, 38]), (87, [42]), (88, [180, 0, 21]), (91, [3]), (92, [42]), (93, [180, 0, 15]), (96, [3]), (97, [16, 48]), (99, [184, 0, 38]), (102, [42]), (103, [27])]
theorem b_dX3_endTrial_0 : chkB l_dX3_endTrial_0 0 (cX3_endTrial.data.toList.drop 0) = true := by decide +kernel
theorem dX3_endTrial_0 : decode cX3_endTrial 0 = .ok (.aload_n 0, 1) := oo_42 (dl3 b_dX3_endTrial_0 0 rfl)
theorem dX3_endTrial_1 : decode cX3_endTrial 1 = .ok (.iload_n 1, 1) := oo_27 (dl3 b_dX3_endTrial_0 1 rfl)
theorem dX3_endTrial_2 : decode cX3_endTrial 2 = .ok (.invokevirtual 53, 3) := oo_182 (b1 := 0) (b2 := 53) rfl (dl3 b_dX3_endTrial_0 2 rfl)
theorem dX3_endTrial_5 : decode cX3_endTrial 5 = .ok (.iconst 0, 1) := oo_3 (dl3 b_dX3_endTrial_0 3 rfl)
theorem dX3_endTrial_6 : decode cX3_endTrial 6 = .ok (.istore_n 2, 1) := oo_61 (dl3 b_dX3_endTrial_0 4 rfl)
theorem dX3_endTrial_7 : decode cX3_endTrial 7 = .ok (.iconst 0, 1) := oo_3 (dl3 b_dX3_endTrial_0 5 rfl)
theorem dX3_endTrial_8 : decode cX3_endTrial 8 = .ok (.istore_n 3, 1) := oo_62 (dl3 b_dX3_endTrial_0 6 rfl)
theorem dX3_endTrial_9 : decode cX3_endTrial 9 = .ok (.iload_n 3, 1) := oo_29 (dl3 b_dX3_endTrial_0 7 rfl)
theorem dX3_endTrial_10 : decode cX3_endTrial 10 = .ok (.bipush 48, 2) := oo_16 (b1 := 48) rfl (dl3 b_dX3_endTrial_0 8 rfl)
theorem dX3_endTrial_12 : decode cX3_endTrial 12 = .ok (.if_icmp .ge 60, 3) := oo_162 (b1 := 0) (b2 := 60) rfl (dl3 b_dX3_endTrial_0 9 rfl)
theorem dX3_endTrial_15 : decode cX3_endTrial 15 = .ok (.aload_n 0, 1) := oo_42 (dl3 b_dX3_endTrial_0 10 rfl)
theorem dX3_endTrial_16 : decode cX3_endTrial 16 = .ok (.getfield 18, 3) := oo_180 (b1 := 0) (b2 := 18) rfl (dl3 b_dX3_endTrial_0 11 rfl)
theorem dX3_endTrial_19 : decode cX3_endTrial 19 = .ok (.iload_n 3, 1) := oo_29 (dl3 b_dX3_endTrial_0 12 rfl)
theorem dX3_endTrial_20 : decode cX3_endTrial 20 = .ok (.iaload, 1) := oo_46 (dl3 b_dX3_endTrial_0 13 rfl)
theorem dX3_endTrial_21 : decode cX3_endTrial 21 = .ok (.aload_n 0, 1) := oo_42 (dl3 b_dX3_endTrial_0 14 rfl)
theorem dX3_endTrial_22 : decode cX3_endTrial 22 = .ok (.getfield 21, 3) := oo_180 (b1 := 0) (b2 := 21) rfl (dl3 b_dX3_endTrial_0 15 rfl)
theorem dX3_endTrial_25 : decode cX3_endTrial 25 = .ok (.iload_n 3, 1) := oo_29 (dl3 b_dX3_endTrial_0 16 rfl)
theorem dX3_endTrial_26 : decode cX3_endTrial 26 = .ok (.iaload, 1) := oo_46 (dl3 b_dX3_endTrial_0 17 rfl)
theorem dX3_endTrial_27 : decode cX3_endTrial 27 = .ok (.if_icmp .le 6, 3) := oo_164 (b1 := 0) (b2 := 6) rfl (dl3 b_dX3_endTrial_0 18 rfl)
theorem dX3_endTrial_30 : decode cX3_endTrial 30 = .ok (.bipush (-3), 2) := oo_16 (b1 := 253) rfl (dl3 b_dX3_endTrial_0 19 rfl)
theorem dX3_endTrial_32 : decode cX3_endTrial 32 = .ok (.ireturn, 1) := oo_172 (dl3 b_dX3_endTrial_0 20 rfl)
theorem dX3_endTrial_33 : decode cX3_endTrial 33 = .ok (.aload_n 0, 1) := oo_42 (dl3 b_dX3_endTrial_0 21 rfl)
theorem dX3_endTrial_34 : decode cX3_endTrial 34 = .ok (.getfield 18, 3) := oo_180 (b1 := 0) (b2 := 18) rfl (dl3 b_dX3_endTrial_0 22 rfl)
theorem dX3_endTrial_37 : decode cX3_endTrial 37 = .ok (.iload_n 3, 1) := oo_29 (dl3 b_dX3_endTrial_0 23 rfl)
theorem dX3_endTrial_38 : decode cX3_endTrial 38 = .ok (.iaload, 1) := oo_46 (dl3 b_dX3_endTrial_0 24 rfl)
theorem dX3_endTrial_39 : decode cX3_endTrial 39 = .ok (.aload_n 0, 1) := oo_42 (dl3 b_dX3_endTrial_0 25 rfl)
theorem dX3_endTrial_40 : decode cX3_endTrial 40 = .ok (.getfield 11, 3) := oo_180 (b1 := 0) (b2 := 11) rfl (dl3 b_dX3_endTrial_0 26 rfl)
theorem dX3_endTrial_43 : decode cX3_endTrial 43 = .ok (.iload_n 3, 1) := oo_29 (dl3 b_dX3_endTrial_0 27 rfl)
theorem dX3_endTrial_44 : decode cX3_endTrial 44 = .ok (.iaload, 1) := oo_46 (dl3 b_dX3_endTrial_0 28 rfl)
theorem dX3_endTrial_45 : decode cX3_endTrial 45 = .ok (.if_icmp .ne 18, 3) := oo_160 (b1 := 0) (b2 := 18) rfl (dl3 b_dX3_endTrial_0 29 rfl)
theorem dX3_endTrial_48 : decode cX3_endTrial 48 = .ok (.aload_n 0, 1) := oo_42 (dl3 b_dX3_endTrial_0 30 rfl)
theorem dX3_endTrial_49 : decode cX3_endTrial 49 = .ok (.getfield 21, 3) := oo_180 (b1 := 0) (b2 := 21) rfl (dl3 b_dX3_endTrial_0 31 rfl)
theorem dX3_endTrial_52 : decode cX3_endTrial 52 = .ok (.iload_n 3, 1) := oo_29 (dl3 b_dX3_endTrial_0 32 rfl)
theorem dX3_endTrial_53 : decode cX3_endTrial 53 = .ok (.iaload, 1) := oo_46 (dl3 b_dX3_endTrial_0 33 rfl)
theorem dX3_endTrial_54 : decode cX3_endTrial 54 = .ok (.aload_n 0, 1) := oo_42 (dl3 b_dX3_endTrial_0 34 rfl)
theorem dX3_endTrial_55 : decode cX3_endTrial 55 = .ok (.getfield 15, 3) := oo_180 (b1 := 0) (b2 := 15) rfl (dl3 b_dX3_endTrial_0 35 rfl)
theorem dX3_endTrial_58 : decode cX3_endTrial 58 = .ok (.iload_n 3, 1) := oo_29 (dl3 b_dX3_endTrial_0 36 rfl)
theorem dX3_endTrial_59 : decode cX3_endTrial 59 = .ok (.iaload, 1) := oo_46 (dl3 b_dX3_endTrial_0 37 rfl)
theorem dX3_endTrial_60 : decode cX3_endTrial 60 = .ok (.if_icmp .eq 6, 3) := oo_159 (b1 := 0) (b2 := 6) rfl (dl3 b_dX3_endTrial_0 38 rfl)
theorem dX3_endTrial_63 : decode cX3_endTrial 63 = .ok (.iinc 2 1, 3) := oo_132 (b1 := 2) (b2 := 1) rfl (dl3 b_dX3_endTrial_0 39 rfl)
theorem dX3_endTrial_66 : decode cX3_endTrial 66 = .ok (.iinc 3 1, 3) := oo_132 (b1 := 3) (b2 := 1) rfl (dl3 b_dX3_endTrial_0 40 rfl)
theorem dX3_endTrial_69 : decode cX3_endTrial 69 = .ok (.goto (-60), 3) := oo_167 (b1 := 255) (b2 := 196) rfl (dl3 b_dX3_endTrial_0 41 rfl)
theorem dX3_endTrial_72 : decode cX3_endTrial 72 = .ok (.aload_n 0, 1) := oo_42 (dl3 b_dX3_endTrial_0 42 rfl)
theorem dX3_endTrial_73 : decode cX3_endTrial 73 = .ok (.getfield 18, 3) := oo_180 (b1 := 0) (b2 := 18) rfl (dl3 b_dX3_endTrial_0 43 rfl)
theorem dX3_endTrial_76 : decode cX3_endTrial 76 = .ok (.iconst 0, 1) := oo_3 (dl3 b_dX3_endTrial_0 44 rfl)
theorem dX3_endTrial_77 : decode cX3_endTrial 77 = .ok (.aload_n 0, 1) := oo_42 (dl3 b_dX3_endTrial_0 45 rfl)
theorem dX3_endTrial_78 : decode cX3_endTrial 78 = .ok (.getfield 11, 3) := oo_180 (b1 := 0) (b2 := 11) rfl (dl3 b_dX3_endTrial_0 46 rfl)
theorem dX3_endTrial_81 : decode cX3_endTrial 81 = .ok (.iconst 0, 1) := oo_3 (dl3 b_dX3_endTrial_0 47 rfl)
theorem dX3_endTrial_82 : decode cX3_endTrial 82 = .ok (.bipush 48, 2) := oo_16 (b1 := 48) rfl (dl3 b_dX3_endTrial_0 48 rfl)
theorem dX3_endTrial_84 : decode cX3_endTrial 84 = .ok (.invokestatic 38, 3) := oo_184 (b1 := 0) (b2 := 38) rfl (dl3 b_dX3_endTrial_0 49 rfl)
theorem dX3_endTrial_87 : decode cX3_endTrial 87 = .ok (.aload_n 0, 1) := oo_42 (dl3 b_dX3_endTrial_0 50 rfl)
theorem dX3_endTrial_88 : decode cX3_endTrial 88 = .ok (.getfield 21, 3) := oo_180 (b1 := 0) (b2 := 21) rfl (dl3 b_dX3_endTrial_0 51 rfl)
theorem dX3_endTrial_91 : decode cX3_endTrial 91 = .ok (.iconst 0, 1) := oo_3 (dl3 b_dX3_endTrial_0 52 rfl)
theorem dX3_endTrial_92 : decode cX3_endTrial 92 = .ok (.aload_n 0, 1) := oo_42 (dl3 b_dX3_endTrial_0 53 rfl)
theorem dX3_endTrial_93 : decode cX3_endTrial 93 = .ok (.getfield 15, 3) := oo_180 (b1 := 0) (b2 := 15) rfl (dl3 b_dX3_endTrial_0 54 rfl)
theorem dX3_endTrial_96 : decode cX3_endTrial 96 = .ok (.iconst 0, 1) := oo_3 (dl3 b_dX3_endTrial_0 55 rfl)
theorem dX3_endTrial_97 : decode cX3_endTrial 97 = .ok (.bipush 48, 2) := oo_16 (b1 := 48) rfl (dl3 b_dX3_endTrial_0 56 rfl)
theorem dX3_endTrial_99 : decode cX3_endTrial 99 = .ok (.invokestatic 38, 3) := oo_184 (b1 := 0) (b2 := 38) rfl (dl3 b_dX3_endTrial_0 57 rfl)
theorem dX3_endTrial_102 : decode cX3_endTrial 102 = .ok (.aload_n 0, 1) := oo_42 (dl3 b_dX3_endTrial_0 58 rfl)
theorem dX3_endTrial_103 : decode cX3_endTrial 103 = .ok (.iload_n 1, 1) := oo_27 (dl3 b_dX3_endTrial_0 59 rfl)
def l_dX3_endTrial_104 : List (Nat × List Nat) := [(104, [181, 0, 24]), (107, [28]), (108, [172])]
theorem b_dX3_endTrial_104 : chkB l_dX3_endTrial_104 104 (cX3_endTrial.data.toList.drop 104) = true := by decide +kernel
theorem dX3_endTrial_104 : decode cX3_endTrial 104 = .ok (.putfield 24, 3) := oo_181 (b1 := 0) (b2 := 24) rfl (dl3 b_dX3_endTrial_104 0 rfl)
theorem dX3_endTrial_107 : decode cX3_endTrial 107 = .ok (.iload_n 2, 1) := oo_28 (dl3 b_dX3_endTrial_104 1 rfl)
theorem dX3_endTrial_108 : decode cX3_endTrial 108 = .ok (.ireturn, 1) := oo_172 (dl3 b_dX3_endTrial_104 2 rfl)
set_option maxRecDepth 20000 in
theorem ggX3_narrowTrial_X3_tryNeighbour : GoodIn wsX3_narrowTrial wsX3_tryNeighbour := goodIn_r _ [5, 6, 7, 8, 9, 10, 4, 11, 12, 13, 14, 15, 16, 17, 18, 19, 20, 21, 22, 23] rfl (by decide +kernel)
set_option maxRecDepth 20000 in
theorem gX3_narrowTrial_X3_tryNeighbour : GoodIn wsX3_narrowTrial (wsV RX3 57 RX3 yX3_tryNeighbour wsX3_tryNeighbour) := goodIn_app (goodIn_r _ [1, 2, 3, 4] rfl (by decide +kernel)) ggX3_narrowTrial_X3_tryNeighbour
def l_dX3_narrowTrial_0 : List (Nat × List Nat) := [(0, [3]), (1, [61]), (2, [28]), (3, [16, 48]), (5, [162, 0, 41]), (8, [28]), (9, [16, 8]), (11, [112]), (12, [158, 0, 12]), (15, [42]), (16, [28]), (17, [28]), (18, [4]), (19, [100]), (20, [27]), (21, [182, 0, 57]), (24, [28]), (25, [16, 8]), (27, [161, 0, 13]), (30, [42]), (31, [28]), (32, [28]), (33, [16, 8]), (35, [100]), (36, [27]), (37, [182, 0, 57]), (40, [132, 2, 1]), (43, [167, 255, 215]), (46, [16, 47]), (48, [61]), (49, [28]), (50, [155, 0, 43]), (53, [28]), (54, [16, 8]), (56, [112]), (57, [16, 7]), (59, [162, 0, 12]), (62, [42]), (63, [28]), (64, [28]), (65, [4]), (66, [96]), (67, [27]), (68, [182, 0, 57]), (71, [28]), (72, [16, 40]), (74, [162, 0, 13]), (77, [42]), (78, [28]), (79, [28]), (80, [16, 8]), (82, [96]), (83, [27]), (84, [182, 0, 57]), (87, [132, 2, 255]), (90, [167, 255, 215]), (93, [177])]
theorem b_dX3_narrowTrial_0 : chkB l_dX3_narrowTrial_0 0 (cX3_narrowTrial.data.toList.drop 0) = true := by decide +kernel
theorem dX3_narrowTrial_0 : decode cX3_narrowTrial 0 = .ok (.iconst 0, 1) := oo_3 (dl3 b_dX3_narrowTrial_0 0 rfl)
theorem dX3_narrowTrial_1 : decode cX3_narrowTrial 1 = .ok (.istore_n 2, 1) := oo_61 (dl3 b_dX3_narrowTrial_0 1 rfl)
theorem dX3_narrowTrial_2 : decode cX3_narrowTrial 2 = .ok (.iload_n 2, 1) := oo_28 (dl3 b_dX3_narrowTrial_0 2 rfl)
theorem dX3_narrowTrial_3 : decode cX3_narrowTrial 3 = .ok (.bipush 48, 2) := oo_16 (b1 := 48) rfl (dl3 b_dX3_narrowTrial_0 3 rfl)
theorem dX3_narrowTrial_5 : decode cX3_narrowTrial 5 = .ok (.if_icmp .ge 41, 3) := oo_162 (b1 := 0) (b2 := 41) rfl (dl3 b_dX3_narrowTrial_0 4 rfl)
theorem dX3_narrowTrial_8 : decode cX3_narrowTrial 8 = .ok (.iload_n 2, 1) := oo_28 (dl3 b_dX3_narrowTrial_0 5 rfl)
theorem dX3_narrowTrial_9 : decode cX3_narrowTrial 9 = .ok (.bipush 8, 2) := oo_16 (b1 := 8) rfl (dl3 b_dX3_narrowTrial_0 6 rfl)
theorem dX3_narrowTrial_11 : decode cX3_narrowTrial 11 = .ok (.irem, 1) := oo_112 (dl3 b_dX3_narrowTrial_0 7 rfl)
theorem dX3_narrowTrial_12 : decode cX3_narrowTrial 12 = .ok (.ifCond .le 12, 3) := oo_158 (b1 := 0) (b2 := 12) rfl (dl3 b_dX3_narrowTrial_0 8 rfl)
theorem dX3_narrowTrial_15 : decode cX3_narrowTrial 15 = .ok (.aload_n 0, 1) := oo_42 (dl3 b_dX3_narrowTrial_0 9 rfl)
theorem dX3_narrowTrial_16 : decode cX3_narrowTrial 16 = .ok (.iload_n 2, 1) := oo_28 (dl3 b_dX3_narrowTrial_0 10 rfl)
theorem dX3_narrowTrial_17 : decode cX3_narrowTrial 17 = .ok (.iload_n 2, 1) := oo_28 (dl3 b_dX3_narrowTrial_0 11 rfl)
theorem dX3_narrowTrial_18 : decode cX3_narrowTrial 18 = .ok (.iconst 1, 1) := oo_4 (dl3 b_dX3_narrowTrial_0 12 rfl)
theorem dX3_narrowTrial_19 : decode cX3_narrowTrial 19 = .ok (.isub, 1) := oo_100 (dl3 b_dX3_narrowTrial_0 13 rfl)
theorem dX3_narrowTrial_20 : decode cX3_narrowTrial 20 = .ok (.iload_n 1, 1) := oo_27 (dl3 b_dX3_narrowTrial_0 14 rfl)
theorem dX3_narrowTrial_21 : decode cX3_narrowTrial 21 = .ok (.invokevirtual 57, 3) := oo_182 (b1 := 0) (b2 := 57) rfl (dl3 b_dX3_narrowTrial_0 15 rfl)
theorem dX3_narrowTrial_24 : decode cX3_narrowTrial 24 = .ok (.iload_n 2, 1) := oo_28 (dl3 b_dX3_narrowTrial_0 16 rfl)
theorem dX3_narrowTrial_25 : decode cX3_narrowTrial 25 = .ok (.bipush 8, 2) := oo_16 (b1 := 8) rfl (dl3 b_dX3_narrowTrial_0 17 rfl)
theorem dX3_narrowTrial_27 : decode cX3_narrowTrial 27 = .ok (.if_icmp .lt 13, 3) := oo_161 (b1 := 0) (b2 := 13) rfl (dl3 b_dX3_narrowTrial_0 18 rfl)
theorem dX3_narrowTrial_30 : decode cX3_narrowTrial 30 = .ok (.aload_n 0, 1) := oo_42 (dl3 b_dX3_narrowTrial_0 19 rfl)
theorem dX3_narrowTrial_31 : decode cX3_narrowTrial 31 = .ok (.iload_n 2, 1) := oo_28 (dl3 b_dX3_narrowTrial_0 20 rfl)
theorem dX3_narrowTrial_32 : decode cX3_narrowTrial 32 = .ok (.iload_n 2, 1) := oo_28 (dl3 b_dX3_narrowTrial_0 21 rfl)
theorem dX3_narrowTrial_33 : decode cX3_narrowTrial 33 = .ok (.bipush 8, 2) := oo_16 (b1 := 8) rfl (dl3 b_dX3_narrowTrial_0 22 rfl)
theorem dX3_narrowTrial_35 : decode cX3_narrowTrial 35 = .ok (.isub, 1) := oo_100 (dl3 b_dX3_narrowTrial_0 23 rfl)
theorem dX3_narrowTrial_36 : decode cX3_narrowTrial 36 = .ok (.iload_n 1, 1) := oo_27 (dl3 b_dX3_narrowTrial_0 24 rfl)
theorem dX3_narrowTrial_37 : decode cX3_narrowTrial 37 = .ok (.invokevirtual 57, 3) := oo_182 (b1 := 0) (b2 := 57) rfl (dl3 b_dX3_narrowTrial_0 25 rfl)
theorem dX3_narrowTrial_40 : decode cX3_narrowTrial 40 = .ok (.iinc 2 1, 3) := oo_132 (b1 := 2) (b2 := 1) rfl (dl3 b_dX3_narrowTrial_0 26 rfl)
theorem dX3_narrowTrial_43 : decode cX3_narrowTrial 43 = .ok (.goto (-41), 3) := oo_167 (b1 := 255) (b2 := 215) rfl (dl3 b_dX3_narrowTrial_0 27 rfl)
theorem dX3_narrowTrial_46 : decode cX3_narrowTrial 46 = .ok (.bipush 47, 2) := oo_16 (b1 := 47) rfl (dl3 b_dX3_narrowTrial_0 28 rfl)
theorem dX3_narrowTrial_48 : decode cX3_narrowTrial 48 = .ok (.istore_n 2, 1) := oo_61 (dl3 b_dX3_narrowTrial_0 29 rfl)
theorem dX3_narrowTrial_49 : decode cX3_narrowTrial 49 = .ok (.iload_n 2, 1) := oo_28 (dl3 b_dX3_narrowTrial_0 30 rfl)
theorem dX3_narrowTrial_50 : decode cX3_narrowTrial 50 = .ok (.ifCond .lt 43, 3) := oo_155 (b1 := 0) (b2 := 43) rfl (dl3 b_dX3_narrowTrial_0 31 rfl)
theorem dX3_narrowTrial_53 : decode cX3_narrowTrial 53 = .ok (.iload_n 2, 1) := oo_28 (dl3 b_dX3_narrowTrial_0 32 rfl)
theorem dX3_narrowTrial_54 : decode cX3_narrowTrial 54 = .ok (.bipush 8, 2) := oo_16 (b1 := 8) rfl (dl3 b_dX3_narrowTrial_0 33 rfl)
theorem dX3_narrowTrial_56 : decode cX3_narrowTrial 56 = .ok (.irem, 1) := oo_112 (dl3 b_dX3_narrowTrial_0 34 rfl)
theorem dX3_narrowTrial_57 : decode cX3_narrowTrial 57 = .ok (.bipush 7, 2) := oo_16 (b1 := 7) rfl (dl3 b_dX3_narrowTrial_0 35 rfl)
theorem dX3_narrowTrial_59 : decode cX3_narrowTrial 59 = .ok (.if_icmp .ge 12, 3) := oo_162 (b1 := 0) (b2 := 12) rfl (dl3 b_dX3_narrowTrial_0 36 rfl)
theorem dX3_narrowTrial_62 : decode cX3_narrowTrial 62 = .ok (.aload_n 0, 1) := oo_42 (dl3 b_dX3_narrowTrial_0 37 rfl)
theorem dX3_narrowTrial_63 : decode cX3_narrowTrial 63 = .ok (.iload_n 2, 1) := oo_28 (dl3 b_dX3_narrowTrial_0 38 rfl)
theorem dX3_narrowTrial_64 : decode cX3_narrowTrial 64 = .ok (.iload_n 2, 1) := oo_28 (dl3 b_dX3_narrowTrial_0 39 rfl)
theorem dX3_narrowTrial_65 : decode cX3_narrowTrial 65 = .ok (.iconst 1, 1) := oo_4 (dl3 b_dX3_narrowTrial_0 40 rfl)
theorem dX3_narrowTrial_66 : decode cX3_narrowTrial 66 = .ok (.iadd, 1) := oo_96 (dl3 b_dX3_narrowTrial_0 41 rfl)
theorem dX3_narrowTrial_67 : decode cX3_narrowTrial 67 = .ok (.iload_n 1, 1) := oo_27 (dl3 b_dX3_narrowTrial_0 42 rfl)
theorem dX3_narrowTrial_68 : decode cX3_narrowTrial 68 = .ok (.invokevirtual 57, 3) := oo_182 (b1 := 0) (b2 := 57) rfl (dl3 b_dX3_narrowTrial_0 43 rfl)
theorem dX3_narrowTrial_71 : decode cX3_narrowTrial 71 = .ok (.iload_n 2, 1) := oo_28 (dl3 b_dX3_narrowTrial_0 44 rfl)
theorem dX3_narrowTrial_72 : decode cX3_narrowTrial 72 = .ok (.bipush 40, 2) := oo_16 (b1 := 40) rfl (dl3 b_dX3_narrowTrial_0 45 rfl)
theorem dX3_narrowTrial_74 : decode cX3_narrowTrial 74 = .ok (.if_icmp .ge 13, 3) := oo_162 (b1 := 0) (b2 := 13) rfl (dl3 b_dX3_narrowTrial_0 46 rfl)
theorem dX3_narrowTrial_77 : decode cX3_narrowTrial 77 = .ok (.aload_n 0, 1) := oo_42 (dl3 b_dX3_narrowTrial_0 47 rfl)
theorem dX3_narrowTrial_78 : decode cX3_narrowTrial 78 = .ok (.iload_n 2, 1) := oo_28 (dl3 b_dX3_narrowTrial_0 48 rfl)
theorem dX3_narrowTrial_79 : decode cX3_narrowTrial 79 = .ok (.iload_n 2, 1) := oo_28 (dl3 b_dX3_narrowTrial_0 49 rfl)
theorem dX3_narrowTrial_80 : decode cX3_narrowTrial 80 = .ok (.bipush 8, 2) := oo_16 (b1 := 8) rfl (dl3 b_dX3_narrowTrial_0 50 rfl)
theorem dX3_narrowTrial_82 : decode cX3_narrowTrial 82 = .ok (.iadd, 1) := oo_96 (dl3 b_dX3_narrowTrial_0 51 rfl)
theorem dX3_narrowTrial_83 : decode cX3_narrowTrial 83 = .ok (.iload_n 1, 1) := oo_27 (dl3 b_dX3_narrowTrial_0 52 rfl)
theorem dX3_narrowTrial_84 : decode cX3_narrowTrial 84 = .ok (.invokevirtual 57, 3) := oo_182 (b1 := 0) (b2 := 57) rfl (dl3 b_dX3_narrowTrial_0 53 rfl)
theorem dX3_narrowTrial_87 : decode cX3_narrowTrial 87 = .ok (.iinc 2 (-1), 3) := oo_132 (b1 := 2) (b2 := 255) rfl (dl3 b_dX3_narrowTrial_0 54 rfl)
theorem dX3_narrowTrial_90 : decode cX3_narrowTrial 90 = .ok (.goto (-41), 3) := oo_167 (b1 := 255) (b2 := 215) rfl (dl3 b_dX3_narrowTrial_0 55 rfl)
theorem dX3_narrowTrial_93 : decode cX3_narrowTrial 93 = .ok (.return_, 1) := oo_177 (dl3 b_dX3_narrowTrial_0 56 rfl)
set_option maxRecDepth 20000 in
theorem ggX3_tryNeighbour_X3_tryCommon : GoodIn wsX3_tryNeighbour wsX3_tryCommon := goodIn_r _ [7, 1, 8, 9, 10, 11, 2, 12, 13, 14, 15, 16, 17, 18, 19] rfl (by decide +kernel)
set_option maxRecDepth 20000 in
theorem gX3_tryNeighbour_X3_tryCommon : GoodIn wsX3_tryNeighbour (wsV RX3 61 RX3 yX3_tryCommon wsX3_tryCommon) := goodIn_app (goodIn_r _ [3, 4, 5, 6] rfl (by decide +kernel)) ggX3_tryNeighbour_X3_tryCommon
def l_dX3_tryNeighbour_0 : List (Nat × List Nat) := [(0, [42]), (1, [27]), (2, [42]), (3, [180, 0, 18]), (6, [28]), (7, [46]), (8, [29]), (9, [100]), (10, [42]), (11, [180, 0, 21]), (14, [28]), (15, [46]), (16, [29]), (17, [96]), (18, [182, 0, 61]), (21, [177])]
theorem b_dX3_tryNeighbour_0 : chkB l_dX3_tryNeighbour_0 0 (cX3_tryNeighbour.data.toList.drop 0) = true := by decide +kernel
theorem dX3_tryNeighbour_0 : decode cX3_tryNeighbour 0 = .ok (.aload_n 0, 1) := oo_42 (dl3 b_dX3_tryNeighbour_0 0 rfl)
theorem dX3_tryNeighbour_1 : decode cX3_tryNeighbour 1 = .ok (.iload_n 1, 1) := oo_27 (dl3 b_dX3_tryNeighbour_0 1 rfl)
theorem dX3_tryNeighbour_2 : decode cX3_tryNeighbour 2 = .ok (.aload_n 0, 1) := oo_42 (dl3 b_dX3_tryNeighbour_0 2 rfl)
theorem dX3_tryNeighbour_3 : decode cX3_tryNeighbour 3 = .ok (.getfield 18, 3) := oo_180 (b1 := 0) (b2 := 18) rfl (dl3 b_dX3_tryNeighbour_0 3 rfl)
theorem dX3_tryNeighbour_6 : decode cX3_tryNeighbour 6 = .ok (.iload_n 2, 1) := oo_28 (dl3 b_dX3_tryNeighbour_0 4 rfl)
theorem dX3_tryNeighbour_7 : decode cX3_tryNeighbour 7 = .ok (.iaload, 1) := oo_46 (dl3 b_dX3_tryNeighbour_0 5 rfl)
theorem dX3_tryNeighbour_8 : decode cX3_tryNeighbour 8 = .ok (.iload_n 3, 1) := oo_29 (dl3 b_dX3_tryNeighbour_0 6 rfl)
theorem dX3_tryNeighbour_9 : decode cX3_tryNeighbour 9 = .ok (.isub, 1) := oo_100 (dl3 b_dX3_tryNeighbour_0 7 rfl)
theorem dX3_tryNeighbour_10 : decode cX3_tryNeighbour 10 = .ok (.aload_n 0, 1) := oo_42 (dl3 b_dX3_tryNeighbour_0 8 rfl)
theorem dX3_tryNeighbour_11 : decode cX3_tryNeighbour 11 = .ok (.getfield 21, 3) := oo_180 (b1 := 0) (b2 := 21) rfl (dl3 b_dX3_tryNeighbour_0 9 rfl)
theorem dX3_tryNeighbour_14 : decode cX3_tryNeighbour 14 = .ok (.iload_n 2, 1) := oo_28 (dl3 b_dX3_tryNeighbour_0 10 rfl)
theorem dX3_tryNeighbour_15 : decode cX3_tryNeighbour 15 = .ok (.iaload, 1) := oo_46 (dl3 b_dX3_tryNeighbour_0 11 rfl)
theorem dX3_tryNeighbour_16 : decode cX3_tryNeighbour 16 = .ok (.iload_n 3, 1) := oo_29 (dl3 b_dX3_tryNeighbour_0 12 rfl)
theorem dX3_tryNeighbour_17 : decode cX3_tryNeighbour 17 = .ok (.iadd, 1) := oo_96 (dl3 b_dX3_tryNeighbour_0 13 rfl)
theorem dX3_tryNeighbour_18 : decode cX3_tryNeighbour 18 = .ok (.invokevirtual 61, 3) := oo_182 (b1 := 0) (b2 := 61) rfl (dl3 b_dX3_tryNeighbour_0 14 rfl)
theorem dX3_tryNeighbour_21 : decode cX3_tryNeighbour 21 = .ok (.return_, 1) := oo_177 (dl3 b_dX3_tryNeighbour_0 15 rfl)
set_option maxRecDepth 20000 in
theorem ggX4_init_X1_init : GoodIn wsX4_init wsX1_init := goodIn_r _ [4, 5, 6, 7, 8, 9, 10, 11, 12, 13, 14, 15, 16, 17, 18, 19, 20, 21, 22, 23, 24] rfl (by decide +kernel)
set_option maxRecDepth 20000 in
theorem gX4_init_X1_init : GoodIn wsX4_init (wsX1_init) := ggX4_init_X1_init
def l_dX4_init_0 : List (Nat × List Nat) := [(0, [42]), (1, [27]), (2, [183, 0, 1]), (5, [177])]
theorem b_dX4_init_0 : chkB l_dX4_init_0 0 (cX4_init.data.toList.drop 0) = true := by decide +kernel
theorem dX4_init_0 : decode cX4_init 0 = .ok (.aload_n 0, 1) := oo_42 (dl3 b_dX4_init_0 0 rfl)
theorem dX4_init_1 : decode cX4_init 1 = .ok (.iload_n 1, 1) := oo_27 (dl3 b_dX4_init_0 1 rfl)
theorem dX4_init_2 : decode cX4_init 2 = .ok (.invokespecial 1, 3) := oo_183 (b1 := 0) (b2 := 1) rfl (dl3 b_dX4_init_0 2 rfl)
theorem dX4_init_5 : decode cX4_init 5 = .ok (.return_, 1) := oo_177 (dl3 b_dX4_init_0 3 rfl)
def l_dX4_debtTaken_0 : List (Nat × List Nat) := [(0, [42]), (1, [180, 0, 7]), (4, [20, 0, 13]), (7, [109]), (8, [173])]
theorem b_dX4_debtTaken_0 : chkB l_dX4_debtTaken_0 0 (cX4_debtTaken.data.toList.drop 0) = true := by decide +kernel
theorem dX4_debtTaken_0 : decode cX4_debtTaken 0 = .ok (.aload_n 0, 1) := oo_42 (dl3 b_dX4_debtTaken_0 0 rfl)
theorem dX4_debtTaken_1 : decode cX4_debtTaken 1 = .ok (.getfield 7, 3) := oo_180 (b1 := 0) (b2 := 7) rfl (dl3 b_dX4_debtTaken_0 1 rfl)
theorem dX4_debtTaken_4 : decode cX4_debtTaken 4 = .ok (.ldc2_w 13, 3) := oo_20 (b1 := 0) (b2 := 13) rfl (dl3 b_dX4_debtTaken_0 2 rfl)
theorem dX4_debtTaken_7 : decode cX4_debtTaken 7 = .ok (.ldiv, 1) := oo_109 (dl3 b_dX4_debtTaken_0 3 rfl)
theorem dX4_debtTaken_8 : decode cX4_debtTaken 8 = .ok (.lreturn, 1) := oo_173 (dl3 b_dX4_debtTaken_0 4 rfl)
set_option maxRecDepth 20000 in
theorem ggX4_telling_X9_leave : GoodIn wsX4_telling wsX9_leave := goodIn_r _ [5, 6, 15] rfl (by decide +kernel)
set_option maxRecDepth 20000 in
theorem gX4_telling_X9_leave : GoodIn wsX4_telling (wsV RX4 15 RX9 yX9_leave wsX9_leave) := goodIn_app (goodIn_r _ [1, 2, 3, 4] rfl (by decide +kernel)) ggX4_telling_X9_leave
set_option maxRecDepth 20000 in
theorem ggX4_telling_X2_tellingOfAnyGang : GoodIn wsX4_telling wsX2_tellingOfAnyGang := goodIn_r _ [12, 13, 14, 2, 3, 4, 5, 6, 16, 17, 18, 19, 20, 21, 22, 23, 24, 25, 26, 27, 15] rfl (by decide +kernel)
set_option maxRecDepth 20000 in
theorem gX4_telling_X2_tellingOfAnyGang_u20X4 : GoodIn wsX4_telling (va_wsU RX4 20 RX4 "TributePitches$Gang" ⟨"TributePitches$OldHands", "tellingOfAnyGang", "(LTributePitches$Trace;)I"⟩ yX2_tellingOfAnyGang wsX2_tellingOfAnyGang) := goodIn_app (goodIn_of _ (by decide +kernel)) ggX4_telling_X2_tellingOfAnyGang
def l_dX4_telling_0 : List (Nat × List Nat) := [(0, [43]), (1, [6]), (2, [182, 0, 15]), (5, [6]), (6, [42]), (7, [43]), (8, [182, 0, 20]), (11, [104]), (12, [172])]
theorem b_dX4_telling_0 : chkB l_dX4_telling_0 0 (cX4_telling.data.toList.drop 0) = true := by decide +kernel
theorem dX4_telling_0 : decode cX4_telling 0 = .ok (.aload_n 1, 1) := oo_43 (dl3 b_dX4_telling_0 0 rfl)
theorem dX4_telling_1 : decode cX4_telling 1 = .ok (.iconst 3, 1) := oo_6 (dl3 b_dX4_telling_0 1 rfl)
theorem dX4_telling_2 : decode cX4_telling 2 = .ok (.invokevirtual 15, 3) := oo_182 (b1 := 0) (b2 := 15) rfl (dl3 b_dX4_telling_0 2 rfl)
theorem dX4_telling_5 : decode cX4_telling 5 = .ok (.iconst 3, 1) := oo_6 (dl3 b_dX4_telling_0 3 rfl)
theorem dX4_telling_6 : decode cX4_telling 6 = .ok (.aload_n 0, 1) := oo_42 (dl3 b_dX4_telling_0 4 rfl)
theorem dX4_telling_7 : decode cX4_telling 7 = .ok (.aload_n 1, 1) := oo_43 (dl3 b_dX4_telling_0 5 rfl)
theorem dX4_telling_8 : decode cX4_telling 8 = .ok (.invokevirtual 20, 3) := oo_182 (b1 := 0) (b2 := 20) rfl (dl3 b_dX4_telling_0 6 rfl)
theorem dX4_telling_11 : decode cX4_telling 11 = .ok (.imul, 1) := oo_104 (dl3 b_dX4_telling_0 7 rfl)
theorem dX4_telling_12 : decode cX4_telling 12 = .ok (.ireturn, 1) := oo_172 (dl3 b_dX4_telling_0 8 rfl)
set_option maxRecDepth 20000 in
theorem ggX4_greeting_X9_leave : GoodIn wsX4_greeting wsX9_leave := goodIn_r _ [5, 6, 14] rfl (by decide +kernel)
set_option maxRecDepth 20000 in
theorem gX4_greeting_X9_leave : GoodIn wsX4_greeting (wsV RX4 15 RX9 yX9_leave wsX9_leave) := goodIn_app (goodIn_r _ [1, 2, 3, 4] rfl (by decide +kernel)) ggX4_greeting_X9_leave
set_option maxRecDepth 20000 in
theorem ggX4_greeting_X1_greeting : GoodIn wsX4_greeting wsX1_greeting := goodIn_r _ [12, 13, 2, 3, 4, 5, 6, 14] rfl (by decide +kernel)
set_option maxRecDepth 20000 in
theorem gX4_greeting_X1_greeting_s24 : GoodIn wsX4_greeting (va_wsSU RX4 24 yX1_greeting wsX1_greeting) := goodIn_app (goodIn_of _ (by decide +kernel)) ggX4_greeting_X1_greeting
def l_dX4_greeting_0 : List (Nat × List Nat) := [(0, [43]), (1, [16, 6]), (3, [182, 0, 15]), (6, [42]), (7, [43]), (8, [183, 0, 24]), (11, [4]), (12, [96]), (13, [172])]
theorem b_dX4_greeting_0 : chkB l_dX4_greeting_0 0 (cX4_greeting.data.toList.drop 0) = true := by decide +kernel
theorem dX4_greeting_0 : decode cX4_greeting 0 = .ok (.aload_n 1, 1) := oo_43 (dl3 b_dX4_greeting_0 0 rfl)
theorem dX4_greeting_1 : decode cX4_greeting 1 = .ok (.bipush 6, 2) := oo_16 (b1 := 6) rfl (dl3 b_dX4_greeting_0 1 rfl)
theorem dX4_greeting_3 : decode cX4_greeting 3 = .ok (.invokevirtual 15, 3) := oo_182 (b1 := 0) (b2 := 15) rfl (dl3 b_dX4_greeting_0 2 rfl)
theorem dX4_greeting_6 : decode cX4_greeting 6 = .ok (.aload_n 0, 1) := oo_42 (dl3 b_dX4_greeting_0 3 rfl)
theorem dX4_greeting_7 : decode cX4_greeting 7 = .ok (.aload_n 1, 1) := oo_43 (dl3 b_dX4_greeting_0 4 rfl)
theorem dX4_greeting_8 : decode cX4_greeting 8 = .ok (.invokespecial 24, 3) := oo_183 (b1 := 0) (b2 := 24) rfl (dl3 b_dX4_greeting_0 5 rfl)
theorem dX4_greeting_11 : decode cX4_greeting 11 = .ok (.iconst 1, 1) := oo_4 (dl3 b_dX4_greeting_0 6 rfl)
theorem dX4_greeting_12 : decode cX4_greeting 12 = .ok (.iadd, 1) := oo_96 (dl3 b_dX4_greeting_0 7 rfl)
theorem dX4_greeting_13 : decode cX4_greeting 13 = .ok (.ireturn, 1) := oo_172 (dl3 b_dX4_greeting_0 8 rfl)
def l_dX5_init_0 : List (Nat × List Nat) := [(0, [42]), (1, [183, 0, 1]), (4, [42]), (5, [43]), (6, [181, 0, 7]), (9, [42]), (10, [28]), (11, [181, 0, 13]), (14, [177])]
theorem b_dX5_init_0 : chkB l_dX5_init_0 0 (cX5_init.data.toList.drop 0) = true := by decide +kernel
theorem dX5_init_0 : decode cX5_init 0 = .ok (.aload_n 0, 1) := oo_42 (dl3 b_dX5_init_0 0 rfl)
theorem dX5_init_1 : decode cX5_init 1 = .ok (.invokespecial 1, 3) := oo_183 (b1 := 0) (b2 := 1) rfl (dl3 b_dX5_init_0 1 rfl)
theorem dX5_init_4 : decode cX5_init 4 = .ok (.aload_n 0, 1) := oo_42 (dl3 b_dX5_init_0 2 rfl)
theorem dX5_init_5 : decode cX5_init 5 = .ok (.aload_n 1, 1) := oo_43 (dl3 b_dX5_init_0 3 rfl)
theorem dX5_init_6 : decode cX5_init 6 = .ok (.putfield 7, 3) := oo_181 (b1 := 0) (b2 := 7) rfl (dl3 b_dX5_init_0 4 rfl)
theorem dX5_init_9 : decode cX5_init 9 = .ok (.aload_n 0, 1) := oo_42 (dl3 b_dX5_init_0 5 rfl)
theorem dX5_init_10 : decode cX5_init 10 = .ok (.iload_n 2, 1) := oo_28 (dl3 b_dX5_init_0 6 rfl)
theorem dX5_init_11 : decode cX5_init 11 = .ok (.putfield 13, 3) := oo_181 (b1 := 0) (b2 := 13) rfl (dl3 b_dX5_init_0 7 rfl)
theorem dX5_init_14 : decode cX5_init 14 = .ok (.return_, 1) := oo_177 (dl3 b_dX5_init_0 8 rfl)
set_option maxRecDepth 20000 in
theorem ggX5_isSuspect_X6_greatestOf : GoodIn wsX5_isSuspect wsX6_greatestOf := goodIn_r _ [8, 9, 10, 11, 12, 13, 14, 15, 16, 17, 18, 19, 20, 28, 29, 30, 31, 32, 33, 34, 35] rfl (by decide +kernel)
set_option maxRecDepth 20000 in
theorem gX5_isSuspect_X6_greatestOf : GoodIn wsX5_isSuspect (wsV RX5 23 RX6 yX6_greatestOf wsX6_greatestOf) := goodIn_app (goodIn_r _ [4, 5, 6, 7] rfl (by decide +kernel)) ggX5_isSuspect_X6_greatestOf
def l_dX5_isSuspect_0 : List (Nat × List Nat) := [(0, [42]), (1, [180, 0, 13]), (4, [42]), (5, [180, 0, 7]), (8, [43]), (9, [180, 0, 17]), (12, [182, 0, 23]), (15, [164, 0, 7]), (18, [4]), (19, [167, 0, 4]), (22, [3]), (23, [172])]
theorem b_dX5_isSuspect_0 : chkB l_dX5_isSuspect_0 0 (cX5_isSuspect.data.toList.drop 0) = true := by decide +kernel
theorem dX5_isSuspect_0 : decode cX5_isSuspect 0 = .ok (.aload_n 0, 1) := oo_42 (dl3 b_dX5_isSuspect_0 0 rfl)
theorem dX5_isSuspect_1 : decode cX5_isSuspect 1 = .ok (.getfield 13, 3) := oo_180 (b1 := 0) (b2 := 13) rfl (dl3 b_dX5_isSuspect_0 1 rfl)
theorem dX5_isSuspect_4 : decode cX5_isSuspect 4 = .ok (.aload_n 0, 1) := oo_42 (dl3 b_dX5_isSuspect_0 2 rfl)
theorem dX5_isSuspect_5 : decode cX5_isSuspect 5 = .ok (.getfield 7, 3) := oo_180 (b1 := 0) (b2 := 7) rfl (dl3 b_dX5_isSuspect_0 3 rfl)
theorem dX5_isSuspect_8 : decode cX5_isSuspect 8 = .ok (.aload_n 1, 1) := oo_43 (dl3 b_dX5_isSuspect_0 4 rfl)
theorem dX5_isSuspect_9 : decode cX5_isSuspect 9 = .ok (.getfield 17, 3) := oo_180 (b1 := 0) (b2 := 17) rfl (dl3 b_dX5_isSuspect_0 5 rfl)
theorem dX5_isSuspect_12 : decode cX5_isSuspect 12 = .ok (.invokevirtual 23, 3) := oo_182 (b1 := 0) (b2 := 23) rfl (dl3 b_dX5_isSuspect_0 6 rfl)
theorem dX5_isSuspect_15 : decode cX5_isSuspect 15 = .ok (.if_icmp .le 7, 3) := oo_164 (b1 := 0) (b2 := 7) rfl (dl3 b_dX5_isSuspect_0 7 rfl)
theorem dX5_isSuspect_18 : decode cX5_isSuspect 18 = .ok (.iconst 1, 1) := oo_4 (dl3 b_dX5_isSuspect_0 8 rfl)
theorem dX5_isSuspect_19 : decode cX5_isSuspect 19 = .ok (.goto 4, 3) := oo_167 (b1 := 0) (b2 := 4) rfl (dl3 b_dX5_isSuspect_0 9 rfl)
theorem dX5_isSuspect_22 : decode cX5_isSuspect 22 = .ok (.iconst 0, 1) := oo_3 (dl3 b_dX5_isSuspect_0 10 rfl)
theorem dX5_isSuspect_23 : decode cX5_isSuspect 23 = .ok (.ireturn, 1) := oo_172 (dl3 b_dX5_isSuspect_0 11 rfl)
def l_dX6_init_0 : List (Nat × List Nat) := [(0, [42]), (1, [183, 0, 1]), (4, [42]), (5, [27]), (6, [181, 0, 7]), (9, [42]), (10, [28]), (11, [181, 0, 13]), (14, [42]), (15, [29]), (16, [181, 0, 16]), (19, [42]), (20, [21, 4]), (22, [181, 0, 19]), (25, [42]), (26, [21, 5]), (28, [181, 0, 22]), (31, [42]), (32, [21, 6]), (34, [181, 0, 25]), (37, [177])]
theorem b_dX6_init_0 : chkB l_dX6_init_0 0 (cX6_init.data.toList.drop 0) = true := by decide +kernel
theorem dX6_init_0 : decode cX6_init 0 = .ok (.aload_n 0, 1) := oo_42 (dl3 b_dX6_init_0 0 rfl)
theorem dX6_init_1 : decode cX6_init 1 = .ok (.invokespecial 1, 3) := oo_183 (b1 := 0) (b2 := 1) rfl (dl3 b_dX6_init_0 1 rfl)
theorem dX6_init_4 : decode cX6_init 4 = .ok (.aload_n 0, 1) := oo_42 (dl3 b_dX6_init_0 2 rfl)
theorem dX6_init_5 : decode cX6_init 5 = .ok (.iload_n 1, 1) := oo_27 (dl3 b_dX6_init_0 3 rfl)
theorem dX6_init_6 : decode cX6_init 6 = .ok (.putfield 7, 3) := oo_181 (b1 := 0) (b2 := 7) rfl (dl3 b_dX6_init_0 4 rfl)
theorem dX6_init_9 : decode cX6_init 9 = .ok (.aload_n 0, 1) := oo_42 (dl3 b_dX6_init_0 5 rfl)
theorem dX6_init_10 : decode cX6_init 10 = .ok (.iload_n 2, 1) := oo_28 (dl3 b_dX6_init_0 6 rfl)
theorem dX6_init_11 : decode cX6_init 11 = .ok (.putfield 13, 3) := oo_181 (b1 := 0) (b2 := 13) rfl (dl3 b_dX6_init_0 7 rfl)
theorem dX6_init_14 : decode cX6_init 14 = .ok (.aload_n 0, 1) := oo_42 (dl3 b_dX6_init_0 8 rfl)
theorem dX6_init_15 : decode cX6_init 15 = .ok (.iload_n 3, 1) := oo_29 (dl3 b_dX6_init_0 9 rfl)
theorem dX6_init_16 : decode cX6_init 16 = .ok (.putfield 16, 3) := oo_181 (b1 := 0) (b2 := 16) rfl (dl3 b_dX6_init_0 10 rfl)
theorem dX6_init_19 : decode cX6_init 19 = .ok (.aload_n 0, 1) := oo_42 (dl3 b_dX6_init_0 11 rfl)
theorem dX6_init_20 : decode cX6_init 20 = .ok (.iload 4, 2) := oo_21 (b1 := 4) (dl3 b_dX6_init_0 12 rfl)
theorem dX6_init_22 : decode cX6_init 22 = .ok (.putfield 19, 3) := oo_181 (b1 := 0) (b2 := 19) rfl (dl3 b_dX6_init_0 13 rfl)
theorem dX6_init_25 : decode cX6_init 25 = .ok (.aload_n 0, 1) := oo_42 (dl3 b_dX6_init_0 14 rfl)
theorem dX6_init_26 : decode cX6_init 26 = .ok (.iload 5, 2) := oo_21 (b1 := 5) (dl3 b_dX6_init_0 15 rfl)
theorem dX6_init_28 : decode cX6_init 28 = .ok (.putfield 22, 3) := oo_181 (b1 := 0) (b2 := 22) rfl (dl3 b_dX6_init_0 16 rfl)
theorem dX6_init_31 : decode cX6_init 31 = .ok (.aload_n 0, 1) := oo_42 (dl3 b_dX6_init_0 17 rfl)
theorem dX6_init_32 : decode cX6_init 32 = .ok (.iload 6, 2) := oo_21 (b1 := 6) (dl3 b_dX6_init_0 18 rfl)
theorem dX6_init_34 : decode cX6_init 34 = .ok (.putfield 25, 3) := oo_181 (b1 := 0) (b2 := 25) rfl (dl3 b_dX6_init_0 19 rfl)
theorem dX6_init_37 : decode cX6_init 37 = .ok (.return_, 1) := oo_177 (dl3 b_dX6_init_0 20 rfl)
def l_dX6_meets_0 : List (Nat × List Nat) := [(0, [42]), (1, [180, 0, 13]), (4, [29]), (5, [163, 0, 32]), (8, [27]), (9, [42]), (10, [180, 0, 19]), (13, [163, 0, 24]), (16, [42]), (17, [180, 0, 16]), (20, [21, 4]), (22, [163, 0, 15]), (25, [28]), (26, [42]), (27, [180, 0, 22]), (30, [163, 0, 7]), (33, [4]), (34, [167, 0, 4]), (37, [3]), (38, [172])]
theorem b_dX6_meets_0 : chkB l_dX6_meets_0 0 (cX6_meets.data.toList.drop 0) = true := by decide +kernel
theorem dX6_meets_0 : decode cX6_meets 0 = .ok (.aload_n 0, 1) := oo_42 (dl3 b_dX6_meets_0 0 rfl)
theorem dX6_meets_1 : decode cX6_meets 1 = .ok (.getfield 13, 3) := oo_180 (b1 := 0) (b2 := 13) rfl (dl3 b_dX6_meets_0 1 rfl)
theorem dX6_meets_4 : decode cX6_meets 4 = .ok (.iload_n 3, 1) := oo_29 (dl3 b_dX6_meets_0 2 rfl)
theorem dX6_meets_5 : decode cX6_meets 5 = .ok (.if_icmp .gt 32, 3) := oo_163 (b1 := 0) (b2 := 32) rfl (dl3 b_dX6_meets_0 3 rfl)
theorem dX6_meets_8 : decode cX6_meets 8 = .ok (.iload_n 1, 1) := oo_27 (dl3 b_dX6_meets_0 4 rfl)
theorem dX6_meets_9 : decode cX6_meets 9 = .ok (.aload_n 0, 1) := oo_42 (dl3 b_dX6_meets_0 5 rfl)
theorem dX6_meets_10 : decode cX6_meets 10 = .ok (.getfield 19, 3) := oo_180 (b1 := 0) (b2 := 19) rfl (dl3 b_dX6_meets_0 6 rfl)
theorem dX6_meets_13 : decode cX6_meets 13 = .ok (.if_icmp .gt 24, 3) := oo_163 (b1 := 0) (b2 := 24) rfl (dl3 b_dX6_meets_0 7 rfl)
theorem dX6_meets_16 : decode cX6_meets 16 = .ok (.aload_n 0, 1) := oo_42 (dl3 b_dX6_meets_0 8 rfl)
theorem dX6_meets_17 : decode cX6_meets 17 = .ok (.getfield 16, 3) := oo_180 (b1 := 0) (b2 := 16) rfl (dl3 b_dX6_meets_0 9 rfl)
theorem dX6_meets_20 : decode cX6_meets 20 = .ok (.iload 4, 2) := oo_21 (b1 := 4) (dl3 b_dX6_meets_0 10 rfl)
theorem dX6_meets_22 : decode cX6_meets 22 = .ok (.if_icmp .gt 15, 3) := oo_163 (b1 := 0) (b2 := 15) rfl (dl3 b_dX6_meets_0 11 rfl)
theorem dX6_meets_25 : decode cX6_meets 25 = .ok (.iload_n 2, 1) := oo_28 (dl3 b_dX6_meets_0 12 rfl)
theorem dX6_meets_26 : decode cX6_meets 26 = .ok (.aload_n 0, 1) := oo_42 (dl3 b_dX6_meets_0 13 rfl)
theorem dX6_meets_27 : decode cX6_meets 27 = .ok (.getfield 22, 3) := oo_180 (b1 := 0) (b2 := 22) rfl (dl3 b_dX6_meets_0 14 rfl)
theorem dX6_meets_30 : decode cX6_meets 30 = .ok (.if_icmp .gt 7, 3) := oo_163 (b1 := 0) (b2 := 7) rfl (dl3 b_dX6_meets_0 15 rfl)
theorem dX6_meets_33 : decode cX6_meets 33 = .ok (.iconst 1, 1) := oo_4 (dl3 b_dX6_meets_0 16 rfl)
theorem dX6_meets_34 : decode cX6_meets 34 = .ok (.goto 4, 3) := oo_167 (b1 := 0) (b2 := 4) rfl (dl3 b_dX6_meets_0 17 rfl)
theorem dX6_meets_37 : decode cX6_meets 37 = .ok (.iconst 0, 1) := oo_3 (dl3 b_dX6_meets_0 18 rfl)
theorem dX6_meets_38 : decode cX6_meets 38 = .ok (.ireturn, 1) := oo_172 (dl3 b_dX6_meets_0 19 rfl)
set_option maxRecDepth 20000 in
theorem ggX6_foretoldBy_X3_numberOf : GoodIn wsX6_foretoldBy wsX3_numberOf := goodIn_r _ [9] rfl (by decide +kernel)
set_option maxRecDepth 20000 in
theorem gX6_foretoldBy_X3_numberOf : GoodIn wsX6_foretoldBy (va_wsS RX6 28 yX3_numberOf wsX3_numberOf) := goodIn_app (goodIn_r _ [6, 7, 8] rfl (by decide +kernel)) ggX6_foretoldBy_X3_numberOf
def l_dX6_foretoldBy_0 : List (Nat × List Nat) := [(0, [9]), (1, [65]), (2, [42]), (3, [180, 0, 16]), (6, [54, 4]), (8, [21, 4]), (10, [42]), (11, [180, 0, 22]), (14, [163, 0, 43]), (17, [42]), (18, [180, 0, 13]), (21, [54, 5]), (23, [21, 5]), (25, [42]), (26, [180, 0, 19]), (29, [163, 0, 22]), (32, [32]), (33, [43]), (34, [21, 5]), (36, [21, 4]), (38, [184, 0, 28]), (41, [46]), (42, [133]), (43, [97]), (44, [65]), (45, [132, 5, 1]), (48, [167, 255, 231]), (51, [132, 4, 1]), (54, [167, 255, 210]), (57, [32]), (58, [42]), (59, [180, 0, 25]), (62, [133]), (63, [105]), (64, [173])]
theorem b_dX6_foretoldBy_0 : chkB l_dX6_foretoldBy_0 0 (cX6_foretoldBy.data.toList.drop 0) = true := by decide +kernel
theorem dX6_foretoldBy_0 : decode cX6_foretoldBy 0 = .ok (.lconst 0, 1) := oo_9 (dl3 b_dX6_foretoldBy_0 0 rfl)
theorem dX6_foretoldBy_1 : decode cX6_foretoldBy 1 = .ok (.lstore_n 2, 1) := oo_65 (dl3 b_dX6_foretoldBy_0 1 rfl)
theorem dX6_foretoldBy_2 : decode cX6_foretoldBy 2 = .ok (.aload_n 0, 1) := oo_42 (dl3 b_dX6_foretoldBy_0 2 rfl)
theorem dX6_foretoldBy_3 : decode cX6_foretoldBy 3 = .ok (.getfield 16, 3) := oo_180 (b1 := 0) (b2 := 16) rfl (dl3 b_dX6_foretoldBy_0 3 rfl)
theorem dX6_foretoldBy_6 : decode cX6_foretoldBy 6 = .ok (.istore 4, 2) := oo_54 (b1 := 4) (dl3 b_dX6_foretoldBy_0 4 rfl)
theorem dX6_foretoldBy_8 : decode cX6_foretoldBy 8 = .ok (.iload 4, 2) := oo_21 (b1 := 4) (dl3 b_dX6_foretoldBy_0 5 rfl)
theorem dX6_foretoldBy_10 : decode cX6_foretoldBy 10 = .ok (.aload_n 0, 1) := oo_42 (dl3 b_dX6_foretoldBy_0 6 rfl)
theorem dX6_foretoldBy_11 : decode cX6_foretoldBy 11 = .ok (.getfield 22, 3) := oo_180 (b1 := 0) (b2 := 22) rfl (dl3 b_dX6_foretoldBy_0 7 rfl)
theorem dX6_foretoldBy_14 : decode cX6_foretoldBy 14 = .ok (.if_icmp .gt 43, 3) := oo_163 (b1 := 0) (b2 := 43) rfl (dl3 b_dX6_foretoldBy_0 8 rfl)
theorem dX6_foretoldBy_17 : decode cX6_foretoldBy 17 = .ok (.aload_n 0, 1) := oo_42 (dl3 b_dX6_foretoldBy_0 9 rfl)
theorem dX6_foretoldBy_18 : decode cX6_foretoldBy 18 = .ok (.getfield 13, 3) := oo_180 (b1 := 0) (b2 := 13) rfl (dl3 b_dX6_foretoldBy_0 10 rfl)
theorem dX6_foretoldBy_21 : decode cX6_foretoldBy 21 = .ok (.istore 5, 2) := oo_54 (b1 := 5) (dl3 b_dX6_foretoldBy_0 11 rfl)
theorem dX6_foretoldBy_23 : decode cX6_foretoldBy 23 = .ok (.iload 5, 2) := oo_21 (b1 := 5) (dl3 b_dX6_foretoldBy_0 12 rfl)
theorem dX6_foretoldBy_25 : decode cX6_foretoldBy 25 = .ok (.aload_n 0, 1) := oo_42 (dl3 b_dX6_foretoldBy_0 13 rfl)
theorem dX6_foretoldBy_26 : decode cX6_foretoldBy 26 = .ok (.getfield 19, 3) := oo_180 (b1 := 0) (b2 := 19) rfl (dl3 b_dX6_foretoldBy_0 14 rfl)
theorem dX6_foretoldBy_29 : decode cX6_foretoldBy 29 = .ok (.if_icmp .gt 22, 3) := oo_163 (b1 := 0) (b2 := 22) rfl (dl3 b_dX6_foretoldBy_0 15 rfl)
theorem dX6_foretoldBy_32 : decode cX6_foretoldBy 32 = .ok (.lload_n 2, 1) := oo_32 (dl3 b_dX6_foretoldBy_0 16 rfl)
theorem dX6_foretoldBy_33 : decode cX6_foretoldBy 33 = .ok (.aload_n 1, 1) := oo_43 (dl3 b_dX6_foretoldBy_0 17 rfl)
theorem dX6_foretoldBy_34 : decode cX6_foretoldBy 34 = .ok (.iload 5, 2) := oo_21 (b1 := 5) (dl3 b_dX6_foretoldBy_0 18 rfl)
theorem dX6_foretoldBy_36 : decode cX6_foretoldBy 36 = .ok (.iload 4, 2) := oo_21 (b1 := 4) (dl3 b_dX6_foretoldBy_0 19 rfl)
theorem dX6_foretoldBy_38 : decode cX6_foretoldBy 38 = .ok (.invokestatic 28, 3) := oo_184 (b1 := 0) (b2 := 28) rfl (dl3 b_dX6_foretoldBy_0 20 rfl)
theorem dX6_foretoldBy_41 : decode cX6_foretoldBy 41 = .ok (.iaload, 1) := oo_46 (dl3 b_dX6_foretoldBy_0 21 rfl)
theorem dX6_foretoldBy_42 : decode cX6_foretoldBy 42 = .ok (.i2l, 1) := oo_133 (dl3 b_dX6_foretoldBy_0 22 rfl)
theorem dX6_foretoldBy_43 : decode cX6_foretoldBy 43 = .ok (.ladd, 1) := oo_97 (dl3 b_dX6_foretoldBy_0 23 rfl)
theorem dX6_foretoldBy_44 : decode cX6_foretoldBy 44 = .ok (.lstore_n 2, 1) := oo_65 (dl3 b_dX6_foretoldBy_0 24 rfl)
theorem dX6_foretoldBy_45 : decode cX6_foretoldBy 45 = .ok (.iinc 5 1, 3) := oo_132 (b1 := 5) (b2 := 1) rfl (dl3 b_dX6_foretoldBy_0 25 rfl)
theorem dX6_foretoldBy_48 : decode cX6_foretoldBy 48 = .ok (.goto (-25), 3) := oo_167 (b1 := 255) (b2 := 231) rfl (dl3 b_dX6_foretoldBy_0 26 rfl)
theorem dX6_foretoldBy_51 : decode cX6_foretoldBy 51 = .ok (.iinc 4 1, 3) := oo_132 (b1 := 4) (b2 := 1) rfl (dl3 b_dX6_foretoldBy_0 27 rfl)
theorem dX6_foretoldBy_54 : decode cX6_foretoldBy 54 = .ok (.goto (-46), 3) := oo_167 (b1 := 255) (b2 := 210) rfl (dl3 b_dX6_foretoldBy_0 28 rfl)
theorem dX6_foretoldBy_57 : decode cX6_foretoldBy 57 = .ok (.lload_n 2, 1) := oo_32 (dl3 b_dX6_foretoldBy_0 29 rfl)
theorem dX6_foretoldBy_58 : decode cX6_foretoldBy 58 = .ok (.aload_n 0, 1) := oo_42 (dl3 b_dX6_foretoldBy_0 30 rfl)
theorem dX6_foretoldBy_59 : decode cX6_foretoldBy 59 = .ok (.getfield 25, 3) := oo_180 (b1 := 0) (b2 := 25) rfl (dl3 b_dX6_foretoldBy_0 31 rfl)
theorem dX6_foretoldBy_62 : decode cX6_foretoldBy 62 = .ok (.i2l, 1) := oo_133 (dl3 b_dX6_foretoldBy_0 32 rfl)
theorem dX6_foretoldBy_63 : decode cX6_foretoldBy 63 = .ok (.lmul, 1) := oo_105 (dl3 b_dX6_foretoldBy_0 33 rfl)
theorem dX6_foretoldBy_64 : decode cX6_foretoldBy 64 = .ok (.lreturn, 1) := oo_173 (dl3 b_dX6_foretoldBy_0 34 rfl)
set_option maxRecDepth 20000 in
theorem ggX6_greatestOf_X3_numberOf : GoodIn wsX6_greatestOf wsX3_numberOf := goodIn_r _ [12] rfl (by decide +kernel)
set_option maxRecDepth 20000 in
theorem gX6_greatestOf_X3_numberOf : GoodIn wsX6_greatestOf (va_wsS RX6 28 yX3_numberOf wsX3_numberOf) := goodIn_app (goodIn_r _ [9, 10, 11] rfl (by decide +kernel)) ggX6_greatestOf_X3_numberOf
def l_dX6_greatestOf_0 : List (Nat × List Nat) := [(0, [3]), (1, [61]), (2, [42]), (3, [180, 0, 16]), (6, [62]), (7, [29]), (8, [42]), (9, [180, 0, 22]), (12, [163, 0, 43]), (15, [42]), (16, [180, 0, 13]), (19, [54, 4]), (21, [21, 4]), (23, [42]), (24, [180, 0, 19]), (27, [163, 0, 22]), (30, [28]), (31, [43]), (32, [21, 4]), (34, [29]), (35, [184, 0, 28]), (38, [46]), (39, [184, 0, 34]), (42, [61]), (43, [132, 4, 1]), (46, [167, 255, 231]), (49, [132, 3, 1]), (52, [167, 255, 211]), (55, [28]), (56, [172])]
theorem b_dX6_greatestOf_0 : chkB l_dX6_greatestOf_0 0 (cX6_greatestOf.data.toList.drop 0) = true := by decide +kernel
theorem dX6_greatestOf_0 : decode cX6_greatestOf 0 = .ok (.iconst 0, 1) := oo_3 (dl3 b_dX6_greatestOf_0 0 rfl)
theorem dX6_greatestOf_1 : decode cX6_greatestOf 1 = .ok (.istore_n 2, 1) := oo_61 (dl3 b_dX6_greatestOf_0 1 rfl)
theorem dX6_greatestOf_2 : decode cX6_greatestOf 2 = .ok (.aload_n 0, 1) := oo_42 (dl3 b_dX6_greatestOf_0 2 rfl)
theorem dX6_greatestOf_3 : decode cX6_greatestOf 3 = .ok (.getfield 16, 3) := oo_180 (b1 := 0) (b2 := 16) rfl (dl3 b_dX6_greatestOf_0 3 rfl)
theorem dX6_greatestOf_6 : decode cX6_greatestOf 6 = .ok (.istore_n 3, 1) := oo_62 (dl3 b_dX6_greatestOf_0 4 rfl)
theorem dX6_greatestOf_7 : decode cX6_greatestOf 7 = .ok (.iload_n 3, 1) := oo_29 (dl3 b_dX6_greatestOf_0 5 rfl)
theorem dX6_greatestOf_8 : decode cX6_greatestOf 8 = .ok (.aload_n 0, 1) := oo_42 (dl3 b_dX6_greatestOf_0 6 rfl)
theorem dX6_greatestOf_9 : decode cX6_greatestOf 9 = .ok (.getfield 22, 3) := oo_180 (b1 := 0) (b2 := 22) rfl (dl3 b_dX6_greatestOf_0 7 rfl)
theorem dX6_greatestOf_12 : decode cX6_greatestOf 12 = .ok (.if_icmp .gt 43, 3) := oo_163 (b1 := 0) (b2 := 43) rfl (dl3 b_dX6_greatestOf_0 8 rfl)
theorem dX6_greatestOf_15 : decode cX6_greatestOf 15 = .ok (.aload_n 0, 1) := oo_42 (dl3 b_dX6_greatestOf_0 9 rfl)
theorem dX6_greatestOf_16 : decode cX6_greatestOf 16 = .ok (.getfield 13, 3) := oo_180 (b1 := 0) (b2 := 13) rfl (dl3 b_dX6_greatestOf_0 10 rfl)
theorem dX6_greatestOf_19 : decode cX6_greatestOf 19 = .ok (.istore 4, 2) := oo_54 (b1 := 4) (dl3 b_dX6_greatestOf_0 11 rfl)
theorem dX6_greatestOf_21 : decode cX6_greatestOf 21 = .ok (.iload 4, 2) := oo_21 (b1 := 4) (dl3 b_dX6_greatestOf_0 12 rfl)
theorem dX6_greatestOf_23 : decode cX6_greatestOf 23 = .ok (.aload_n 0, 1) := oo_42 (dl3 b_dX6_greatestOf_0 13 rfl)
theorem dX6_greatestOf_24 : decode cX6_greatestOf 24 = .ok (.getfield 19, 3) := oo_180 (b1 := 0) (b2 := 19) rfl (dl3 b_dX6_greatestOf_0 14 rfl)
theorem dX6_greatestOf_27 : decode cX6_greatestOf 27 = .ok (.if_icmp .gt 22, 3) := oo_163 (b1 := 0) (b2 := 22) rfl (dl3 b_dX6_greatestOf_0 15 rfl)
theorem dX6_greatestOf_30 : decode cX6_greatestOf 30 = .ok (.iload_n 2, 1) := oo_28 (dl3 b_dX6_greatestOf_0 16 rfl)
theorem dX6_greatestOf_31 : decode cX6_greatestOf 31 = .ok (.aload_n 1, 1) := oo_43 (dl3 b_dX6_greatestOf_0 17 rfl)
theorem dX6_greatestOf_32 : decode cX6_greatestOf 32 = .ok (.iload 4, 2) := oo_21 (b1 := 4) (dl3 b_dX6_greatestOf_0 18 rfl)
theorem dX6_greatestOf_34 : decode cX6_greatestOf 34 = .ok (.iload_n 3, 1) := oo_29 (dl3 b_dX6_greatestOf_0 19 rfl)
theorem dX6_greatestOf_35 : decode cX6_greatestOf 35 = .ok (.invokestatic 28, 3) := oo_184 (b1 := 0) (b2 := 28) rfl (dl3 b_dX6_greatestOf_0 20 rfl)
theorem dX6_greatestOf_38 : decode cX6_greatestOf 38 = .ok (.iaload, 1) := oo_46 (dl3 b_dX6_greatestOf_0 21 rfl)
theorem dX6_greatestOf_39 : decode cX6_greatestOf 39 = .ok (.invokestatic 34, 3) := oo_184 (b1 := 0) (b2 := 34) rfl (dl3 b_dX6_greatestOf_0 22 rfl)
theorem dX6_greatestOf_42 : decode cX6_greatestOf 42 = .ok (.istore_n 2, 1) := oo_61 (dl3 b_dX6_greatestOf_0 23 rfl)
theorem dX6_greatestOf_43 : decode cX6_greatestOf 43 = .ok (.iinc 4 1, 3) := oo_132 (b1 := 4) (b2 := 1) rfl (dl3 b_dX6_greatestOf_0 24 rfl)
theorem dX6_greatestOf_46 : decode cX6_greatestOf 46 = .ok (.goto (-25), 3) := oo_167 (b1 := 255) (b2 := 231) rfl (dl3 b_dX6_greatestOf_0 25 rfl)
theorem dX6_greatestOf_49 : decode cX6_greatestOf 49 = .ok (.iinc 3 1, 3) := oo_132 (b1 := 3) (b2 := 1) rfl (dl3 b_dX6_greatestOf_0 26 rfl)
theorem dX6_greatestOf_52 : decode cX6_greatestOf 52 = .ok (.goto (-45), 3) := oo_167 (b1 := 255) (b2 := 211) rfl (dl3 b_dX6_greatestOf_0 27 rfl)
theorem dX6_greatestOf_55 : decode cX6_greatestOf 55 = .ok (.iload_n 2, 1) := oo_28 (dl3 b_dX6_greatestOf_0 28 rfl)
theorem dX6_greatestOf_56 : decode cX6_greatestOf 56 = .ok (.ireturn, 1) := oo_172 (dl3 b_dX6_greatestOf_0 29 rfl)
def l_dX7_init_0 : List (Nat × List Nat) := [(0, [42]), (1, [183, 0, 3]), (4, [42]), (5, [16, 48]), (7, [188, 10]), (9, [181, 0, 11]), (12, [42]), (13, [2]), (14, [181, 0, 15]), (17, [177])]
theorem b_dX7_init_0 : chkB l_dX7_init_0 0 (cX7_init.data.toList.drop 0) = true := by decide +kernel
theorem dX7_init_0 : decode cX7_init 0 = .ok (.aload_n 0, 1) := oo_42 (dl3 b_dX7_init_0 0 rfl)
theorem dX7_init_1 : decode cX7_init 1 = .ok (.invokespecial 3, 3) := oo_183 (b1 := 0) (b2 := 3) rfl (dl3 b_dX7_init_0 1 rfl)
theorem dX7_init_4 : decode cX7_init 4 = .ok (.aload_n 0, 1) := oo_42 (dl3 b_dX7_init_0 2 rfl)
theorem dX7_init_5 : decode cX7_init 5 = .ok (.bipush 48, 2) := oo_16 (b1 := 48) rfl (dl3 b_dX7_init_0 3 rfl)
theorem dX7_init_7 : decode cX7_init 7 = .ok (.newarray .int, 2) := oo_188_10 (dl3 b_dX7_init_0 4 rfl)
theorem dX7_init_9 : decode cX7_init 9 = .ok (.putfield 11, 3) := oo_181 (b1 := 0) (b2 := 11) rfl (dl3 b_dX7_init_0 5 rfl)
theorem dX7_init_12 : decode cX7_init 12 = .ok (.aload_n 0, 1) := oo_42 (dl3 b_dX7_init_0 6 rfl)
theorem dX7_init_13 : decode cX7_init 13 = .ok (.iconst (-1), 1) := oo_2 (dl3 b_dX7_init_0 7 rfl)
theorem dX7_init_14 : decode cX7_init 14 = .ok (.putfield 15, 3) := oo_181 (b1 := 0) (b2 := 15) rfl (dl3 b_dX7_init_0 8 rfl)
theorem dX7_init_17 : decode cX7_init 17 = .ok (.return_, 1) := oo_177 (dl3 b_dX7_init_0 9 rfl)
set_option maxRecDepth 20000 in
theorem ggX7_isLane_X10_isWithin : GoodIn wsX7_isLane wsX10_isWithin := goodIn_r _ [3] rfl (by decide +kernel)
set_option maxRecDepth 20000 in
theorem gX7_isLane_X10_isWithin_n19 : GoodIn wsX7_isLane (wsX10_isWithin) := ggX7_isLane_X10_isWithin
def l_dX7_isLane_0 : List (Nat × List Nat) := [(0, [26]), (1, [3]), (2, [5]), (3, [184, 0, 19]), (6, [172])]
theorem b_dX7_isLane_0 : chkB l_dX7_isLane_0 0 (cX7_isLane.data.toList.drop 0) = true := by decide +kernel
theorem dX7_isLane_0 : decode cX7_isLane 0 = .ok (.iload_n 0, 1) := oo_26 (dl3 b_dX7_isLane_0 0 rfl)
theorem dX7_isLane_1 : decode cX7_isLane 1 = .ok (.iconst 0, 1) := oo_3 (dl3 b_dX7_isLane_0 1 rfl)
theorem dX7_isLane_2 : decode cX7_isLane 2 = .ok (.iconst 2, 1) := oo_5 (dl3 b_dX7_isLane_0 2 rfl)
theorem dX7_isLane_3 : decode cX7_isLane 3 = .ok (.invokestatic 19, 3) := oo_184 (b1 := 0) (b2 := 19) rfl (dl3 b_dX7_isLane_0 3 rfl)
theorem dX7_isLane_6 : decode cX7_isLane 6 = .ok (.ireturn, 1) := oo_172 (dl3 b_dX7_isLane_0 4 rfl)
set_option maxRecDepth 20000 in
theorem ggX7_renew_J7_fill_53178 : GoodIn wsX7_renew wsJ7_fill_53178 := goodIn_r _ [7] rfl (by decide +kernel)
set_option maxRecDepth 20000 in
theorem gX7_renew_J7_fill_53178 : GoodIn wsX7_renew (va_wsS RX7 23 yJ7_fill_53178 wsJ7_fill_53178) := goodIn_app (goodIn_r _ [4, 5, 6] rfl (by decide +kernel)) ggX7_renew_J7_fill_53178
def l_dX7_renew_0 : List (Nat × List Nat) := [(0, [42]), (1, [180, 0, 11]), (4, [3]), (5, [184, 0, 23]), (8, [42]), (9, [27]), (10, [181, 0, 15]), (13, [42]), (14, [28]), (15, [181, 0, 29]), (18, [177])]
theorem b_dX7_renew_0 : chkB l_dX7_renew_0 0 (cX7_renew.data.toList.drop 0) = true := by decide +kernel
theorem dX7_renew_0 : decode cX7_renew 0 = .ok (.aload_n 0, 1) := oo_42 (dl3 b_dX7_renew_0 0 rfl)
theorem dX7_renew_1 : decode cX7_renew 1 = .ok (.getfield 11, 3) := oo_180 (b1 := 0) (b2 := 11) rfl (dl3 b_dX7_renew_0 1 rfl)
theorem dX7_renew_4 : decode cX7_renew 4 = .ok (.iconst 0, 1) := oo_3 (dl3 b_dX7_renew_0 2 rfl)
theorem dX7_renew_5 : decode cX7_renew 5 = .ok (.invokestatic 23, 3) := oo_184 (b1 := 0) (b2 := 23) rfl (dl3 b_dX7_renew_0 3 rfl)
theorem dX7_renew_8 : decode cX7_renew 8 = .ok (.aload_n 0, 1) := oo_42 (dl3 b_dX7_renew_0 4 rfl)
theorem dX7_renew_9 : decode cX7_renew 9 = .ok (.iload_n 1, 1) := oo_27 (dl3 b_dX7_renew_0 5 rfl)
theorem dX7_renew_10 : decode cX7_renew 10 = .ok (.putfield 15, 3) := oo_181 (b1 := 0) (b2 := 15) rfl (dl3 b_dX7_renew_0 6 rfl)
theorem dX7_renew_13 : decode cX7_renew 13 = .ok (.aload_n 0, 1) := oo_42 (dl3 b_dX7_renew_0 7 rfl)
theorem dX7_renew_14 : decode cX7_renew 14 = .ok (.iload_n 2, 1) := oo_28 (dl3 b_dX7_renew_0 8 rfl)
theorem dX7_renew_15 : decode cX7_renew 15 = .ok (.putfield 29, 3) := oo_181 (b1 := 0) (b2 := 29) rfl (dl3 b_dX7_renew_0 9 rfl)
theorem dX7_renew_18 : decode cX7_renew 18 = .ok (.return_, 1) := oo_177 (dl3 b_dX7_renew_0 10 rfl)
def l_dX7_hasNothing_0 : List (Nat × List Nat) := [(0, [42]), (1, [180, 0, 15]), (4, [2]), (5, [160, 0, 7]), (8, [4]), (9, [167, 0, 4]), (12, [3]), (13, [172])]
theorem b_dX7_hasNothing_0 : chkB l_dX7_hasNothing_0 0 (cX7_hasNothing.data.toList.drop 0) = true := by decide +kernel
theorem dX7_hasNothing_0 : decode cX7_hasNothing 0 = .ok (.aload_n 0, 1) := oo_42 (dl3 b_dX7_hasNothing_0 0 rfl)
theorem dX7_hasNothing_1 : decode cX7_hasNothing 1 = .ok (.getfield 15, 3) := oo_180 (b1 := 0) (b2 := 15) rfl (dl3 b_dX7_hasNothing_0 1 rfl)
theorem dX7_hasNothing_4 : decode cX7_hasNothing 4 = .ok (.iconst (-1), 1) := oo_2 (dl3 b_dX7_hasNothing_0 2 rfl)
theorem dX7_hasNothing_5 : decode cX7_hasNothing 5 = .ok (.if_icmp .ne 7, 3) := oo_160 (b1 := 0) (b2 := 7) rfl (dl3 b_dX7_hasNothing_0 3 rfl)
theorem dX7_hasNothing_8 : decode cX7_hasNothing 8 = .ok (.iconst 1, 1) := oo_4 (dl3 b_dX7_hasNothing_0 4 rfl)
theorem dX7_hasNothing_9 : decode cX7_hasNothing 9 = .ok (.goto 4, 3) := oo_167 (b1 := 0) (b2 := 4) rfl (dl3 b_dX7_hasNothing_0 5 rfl)
theorem dX7_hasNothing_12 : decode cX7_hasNothing 12 = .ok (.iconst 0, 1) := oo_3 (dl3 b_dX7_hasNothing_0 6 rfl)
theorem dX7_hasNothing_13 : decode cX7_hasNothing 13 = .ok (.ireturn, 1) := oo_172 (dl3 b_dX7_hasNothing_0 7 rfl)
set_option maxRecDepth 20000 in
theorem ggX7_faultAs_X7_hasNothing : GoodIn wsX7_faultAs wsX7_hasNothing := goodIn_r _ [6, 1, 7, 8, 9] rfl (by decide +kernel)
set_option maxRecDepth 20000 in
theorem gX7_faultAs_X7_hasNothing : GoodIn wsX7_faultAs (wsV RX7 32 RX7 yX7_hasNothing wsX7_hasNothing) := goodIn_app (goodIn_r _ [2, 3, 4, 5] rfl (by decide +kernel)) ggX7_faultAs_X7_hasNothing
def l_dX7_faultAs_0 : List (Nat × List Nat) := [(0, [42]), (1, [182, 0, 32]), (4, [153, 0, 5]), (7, [4]), (8, [172]), (9, [42]), (10, [180, 0, 15]), (13, [27]), (14, [160, 0, 7]), (17, [3]), (18, [167, 0, 4]), (21, [5]), (22, [172])]
theorem b_dX7_faultAs_0 : chkB l_dX7_faultAs_0 0 (cX7_faultAs.data.toList.drop 0) = true := by decide +kernel
theorem dX7_faultAs_0 : decode cX7_faultAs 0 = .ok (.aload_n 0, 1) := oo_42 (dl3 b_dX7_faultAs_0 0 rfl)
theorem dX7_faultAs_1 : decode cX7_faultAs 1 = .ok (.invokevirtual 32, 3) := oo_182 (b1 := 0) (b2 := 32) rfl (dl3 b_dX7_faultAs_0 1 rfl)
theorem dX7_faultAs_4 : decode cX7_faultAs 4 = .ok (.ifCond .eq 5, 3) := oo_153 (b1 := 0) (b2 := 5) rfl (dl3 b_dX7_faultAs_0 2 rfl)
theorem dX7_faultAs_7 : decode cX7_faultAs 7 = .ok (.iconst 1, 1) := oo_4 (dl3 b_dX7_faultAs_0 3 rfl)
theorem dX7_faultAs_8 : decode cX7_faultAs 8 = .ok (.ireturn, 1) := oo_172 (dl3 b_dX7_faultAs_0 4 rfl)
theorem dX7_faultAs_9 : decode cX7_faultAs 9 = .ok (.aload_n 0, 1) := oo_42 (dl3 b_dX7_faultAs_0 5 rfl)
theorem dX7_faultAs_10 : decode cX7_faultAs 10 = .ok (.getfield 15, 3) := oo_180 (b1 := 0) (b2 := 15) rfl (dl3 b_dX7_faultAs_0 6 rfl)
theorem dX7_faultAs_13 : decode cX7_faultAs 13 = .ok (.iload_n 1, 1) := oo_27 (dl3 b_dX7_faultAs_0 7 rfl)
theorem dX7_faultAs_14 : decode cX7_faultAs 14 = .ok (.if_icmp .ne 7, 3) := oo_160 (b1 := 0) (b2 := 7) rfl (dl3 b_dX7_faultAs_0 8 rfl)
theorem dX7_faultAs_17 : decode cX7_faultAs 17 = .ok (.iconst 0, 1) := oo_3 (dl3 b_dX7_faultAs_0 9 rfl)
theorem dX7_faultAs_18 : decode cX7_faultAs 18 = .ok (.goto 4, 3) := oo_167 (b1 := 0) (b2 := 4) rfl (dl3 b_dX7_faultAs_0 10 rfl)
theorem dX7_faultAs_21 : decode cX7_faultAs 21 = .ok (.iconst 2, 1) := oo_5 (dl3 b_dX7_faultAs_0 11 rfl)
theorem dX7_faultAs_22 : decode cX7_faultAs 22 = .ok (.ireturn, 1) := oo_172 (dl3 b_dX7_faultAs_0 12 rfl)
def l_dX7_holds_0 : List (Nat × List Nat) := [(0, [27]), (1, [155, 0, 25]), (4, [28]), (5, [155, 0, 21]), (8, [27]), (9, [133]), (10, [28]), (11, [133]), (12, [97]), (13, [42]), (14, [180, 0, 29]), (17, [133]), (18, [148]), (19, [157, 0, 7]), (22, [4]), (23, [167, 0, 4]), (26, [3]), (27, [172])]
theorem b_dX7_holds_0 : chkB l_dX7_holds_0 0 (cX7_holds.data.toList.drop 0) = true := by decide +kernel
theorem dX7_holds_0 : decode cX7_holds 0 = .ok (.iload_n 1, 1) := oo_27 (dl3 b_dX7_holds_0 0 rfl)
theorem dX7_holds_1 : decode cX7_holds 1 = .ok (.ifCond .lt 25, 3) := oo_155 (b1 := 0) (b2 := 25) rfl (dl3 b_dX7_holds_0 1 rfl)
theorem dX7_holds_4 : decode cX7_holds 4 = .ok (.iload_n 2, 1) := oo_28 (dl3 b_dX7_holds_0 2 rfl)
theorem dX7_holds_5 : decode cX7_holds 5 = .ok (.ifCond .lt 21, 3) := oo_155 (b1 := 0) (b2 := 21) rfl (dl3 b_dX7_holds_0 3 rfl)
theorem dX7_holds_8 : decode cX7_holds 8 = .ok (.iload_n 1, 1) := oo_27 (dl3 b_dX7_holds_0 4 rfl)
theorem dX7_holds_9 : decode cX7_holds 9 = .ok (.i2l, 1) := oo_133 (dl3 b_dX7_holds_0 5 rfl)
theorem dX7_holds_10 : decode cX7_holds 10 = .ok (.iload_n 2, 1) := oo_28 (dl3 b_dX7_holds_0 6 rfl)
theorem dX7_holds_11 : decode cX7_holds 11 = .ok (.i2l, 1) := oo_133 (dl3 b_dX7_holds_0 7 rfl)
theorem dX7_holds_12 : decode cX7_holds 12 = .ok (.ladd, 1) := oo_97 (dl3 b_dX7_holds_0 8 rfl)
theorem dX7_holds_13 : decode cX7_holds 13 = .ok (.aload_n 0, 1) := oo_42 (dl3 b_dX7_holds_0 9 rfl)
theorem dX7_holds_14 : decode cX7_holds 14 = .ok (.getfield 29, 3) := oo_180 (b1 := 0) (b2 := 29) rfl (dl3 b_dX7_holds_0 10 rfl)
theorem dX7_holds_17 : decode cX7_holds 17 = .ok (.i2l, 1) := oo_133 (dl3 b_dX7_holds_0 11 rfl)
theorem dX7_holds_18 : decode cX7_holds 18 = .ok (.lcmp, 1) := oo_148 (dl3 b_dX7_holds_0 12 rfl)
theorem dX7_holds_19 : decode cX7_holds 19 = .ok (.ifCond .gt 7, 3) := oo_157 (b1 := 0) (b2 := 7) rfl (dl3 b_dX7_holds_0 13 rfl)
theorem dX7_holds_22 : decode cX7_holds 22 = .ok (.iconst 1, 1) := oo_4 (dl3 b_dX7_holds_0 14 rfl)
theorem dX7_holds_23 : decode cX7_holds 23 = .ok (.goto 4, 3) := oo_167 (b1 := 0) (b2 := 4) rfl (dl3 b_dX7_holds_0 15 rfl)
theorem dX7_holds_26 : decode cX7_holds 26 = .ok (.iconst 0, 1) := oo_3 (dl3 b_dX7_holds_0 16 rfl)
theorem dX7_holds_27 : decode cX7_holds 27 = .ok (.ireturn, 1) := oo_172 (dl3 b_dX7_holds_0 17 rfl)
def l_dX7_hasAbove_0 : List (Nat × List Nat) := [(0, [3]), (1, [54, 4]), (3, [21, 4]), (5, [29]), (6, [162, 0, 24]), (9, [42]), (10, [180, 0, 11]), (13, [28]), (14, [21, 4]), (16, [96]), (17, [46]), (18, [27]), (19, [164, 0, 5]), (22, [4]), (23, [172]), (24, [132, 4, 1]), (27, [167, 255, 232]), (30, [3]), (31, [172])]
theorem b_dX7_hasAbove_0 : chkB l_dX7_hasAbove_0 0 (cX7_hasAbove.data.toList.drop 0) = true := by decide +kernel
theorem dX7_hasAbove_0 : decode cX7_hasAbove 0 = .ok (.iconst 0, 1) := oo_3 (dl3 b_dX7_hasAbove_0 0 rfl)
theorem dX7_hasAbove_1 : decode cX7_hasAbove 1 = .ok (.istore 4, 2) := oo_54 (b1 := 4) (dl3 b_dX7_hasAbove_0 1 rfl)
theorem dX7_hasAbove_3 : decode cX7_hasAbove 3 = .ok (.iload 4, 2) := oo_21 (b1 := 4) (dl3 b_dX7_hasAbove_0 2 rfl)
theorem dX7_hasAbove_5 : decode cX7_hasAbove 5 = .ok (.iload_n 3, 1) := oo_29 (dl3 b_dX7_hasAbove_0 3 rfl)
theorem dX7_hasAbove_6 : decode cX7_hasAbove 6 = .ok (.if_icmp .ge 24, 3) := oo_162 (b1 := 0) (b2 := 24) rfl (dl3 b_dX7_hasAbove_0 4 rfl)
theorem dX7_hasAbove_9 : decode cX7_hasAbove 9 = .ok (.aload_n 0, 1) := oo_42 (dl3 b_dX7_hasAbove_0 5 rfl)
theorem dX7_hasAbove_10 : decode cX7_hasAbove 10 = .ok (.getfield 11, 3) := oo_180 (b1 := 0) (b2 := 11) rfl (dl3 b_dX7_hasAbove_0 6 rfl)
theorem dX7_hasAbove_13 : decode cX7_hasAbove 13 = .ok (.iload_n 2, 1) := oo_28 (dl3 b_dX7_hasAbove_0 7 rfl)
theorem dX7_hasAbove_14 : decode cX7_hasAbove 14 = .ok (.iload 4, 2) := oo_21 (b1 := 4) (dl3 b_dX7_hasAbove_0 8 rfl)
theorem dX7_hasAbove_16 : decode cX7_hasAbove 16 = .ok (.iadd, 1) := oo_96 (dl3 b_dX7_hasAbove_0 9 rfl)
theorem dX7_hasAbove_17 : decode cX7_hasAbove 17 = .ok (.iaload, 1) := oo_46 (dl3 b_dX7_hasAbove_0 10 rfl)
theorem dX7_hasAbove_18 : decode cX7_hasAbove 18 = .ok (.iload_n 1, 1) := oo_27 (dl3 b_dX7_hasAbove_0 11 rfl)
theorem dX7_hasAbove_19 : decode cX7_hasAbove 19 = .ok (.if_icmp .le 5, 3) := oo_164 (b1 := 0) (b2 := 5) rfl (dl3 b_dX7_hasAbove_0 12 rfl)
theorem dX7_hasAbove_22 : decode cX7_hasAbove 22 = .ok (.iconst 1, 1) := oo_4 (dl3 b_dX7_hasAbove_0 13 rfl)
theorem dX7_hasAbove_23 : decode cX7_hasAbove 23 = .ok (.ireturn, 1) := oo_172 (dl3 b_dX7_hasAbove_0 14 rfl)
theorem dX7_hasAbove_24 : decode cX7_hasAbove 24 = .ok (.iinc 4 1, 3) := oo_132 (b1 := 4) (b2 := 1) rfl (dl3 b_dX7_hasAbove_0 15 rfl)
theorem dX7_hasAbove_27 : decode cX7_hasAbove 27 = .ok (.goto (-24), 3) := oo_167 (b1 := 255) (b2 := 232) rfl (dl3 b_dX7_hasAbove_0 16 rfl)
theorem dX7_hasAbove_30 : decode cX7_hasAbove 30 = .ok (.iconst 0, 1) := oo_3 (dl3 b_dX7_hasAbove_0 17 rfl)
theorem dX7_hasAbove_31 : decode cX7_hasAbove 31 = .ok (.ireturn, 1) := oo_172 (dl3 b_dX7_hasAbove_0 18 rfl)
def l_dX7_cut_0 : List (Nat × List Nat) := [(0, [42]), (1, [180, 0, 15])]
theorem b_dX7_cut_0 : chkB l_dX7_cut_0 0 (cX7_cut.data.toList.drop 0) = true := by decide +kernel
theorem dX7_cut_0 : decode cX7_cut 0 = .ok (.aload_n 0, 1) := oo_42 (dl3 b_dX7_cut_0 0 rfl)
theorem dX7_cut_1 : decode cX7_cut 1 = .ok (.getfield 15, 3) := oo_180 (b1 := 0) (b2 := 15) rfl (dl3 b_dX7_cut_0 1 rfl)
theorem dX7_cut_4 : decode cX7_cut 4 = .ok (.lookupswitch 34 #[(0, 28), (1, 31)], 28) := by decide +kernel
def l_dX7_cut_32 : List (Nat × List Nat) := [(32, [27]), (33, [145]), (34, [172]), (35, [27]), (36, [147]), (37, [172]), (38, [27]), (39, [172])]
theorem b_dX7_cut_32 : chkB l_dX7_cut_32 32 (cX7_cut.data.toList.drop 32) = true := by decide +kernel
theorem dX7_cut_32 : decode cX7_cut 32 = .ok (.iload_n 1, 1) := oo_27 (dl3 b_dX7_cut_32 0 rfl)
theorem dX7_cut_33 : decode cX7_cut 33 = .ok (.i2b, 1) := oo_145 (dl3 b_dX7_cut_32 1 rfl)
theorem dX7_cut_34 : decode cX7_cut 34 = .ok (.ireturn, 1) := oo_172 (dl3 b_dX7_cut_32 2 rfl)
theorem dX7_cut_35 : decode cX7_cut 35 = .ok (.iload_n 1, 1) := oo_27 (dl3 b_dX7_cut_32 3 rfl)
theorem dX7_cut_36 : decode cX7_cut 36 = .ok (.i2s, 1) := oo_147 (dl3 b_dX7_cut_32 4 rfl)
theorem dX7_cut_37 : decode cX7_cut 37 = .ok (.ireturn, 1) := oo_172 (dl3 b_dX7_cut_32 5 rfl)
theorem dX7_cut_38 : decode cX7_cut 38 = .ok (.iload_n 1, 1) := oo_27 (dl3 b_dX7_cut_32 6 rfl)
theorem dX7_cut_39 : decode cX7_cut 39 = .ok (.ireturn, 1) := oo_172 (dl3 b_dX7_cut_32 7 rfl)
def l_dX8_init_0 : List (Nat × List Nat) := [(0, [42]), (1, [183, 0, 3]), (4, [42]), (5, [27]), (6, [181, 0, 9]), (9, [42]), (10, [44]), (11, [181, 0, 15]), (14, [42]), (15, [45]), (16, [181, 0, 19]), (19, [42]), (20, [21, 4]), (22, [181, 0, 23]), (25, [177])]
theorem b_dX8_init_0 : chkB l_dX8_init_0 0 (cX8_init.data.toList.drop 0) = true := by decide +kernel
theorem dX8_init_0 : decode cX8_init 0 = .ok (.aload_n 0, 1) := oo_42 (dl3 b_dX8_init_0 0 rfl)
theorem dX8_init_1 : decode cX8_init 1 = .ok (.invokespecial 3, 3) := oo_183 (b1 := 0) (b2 := 3) rfl (dl3 b_dX8_init_0 1 rfl)
theorem dX8_init_4 : decode cX8_init 4 = .ok (.aload_n 0, 1) := oo_42 (dl3 b_dX8_init_0 2 rfl)
theorem dX8_init_5 : decode cX8_init 5 = .ok (.iload_n 1, 1) := oo_27 (dl3 b_dX8_init_0 3 rfl)
theorem dX8_init_6 : decode cX8_init 6 = .ok (.putfield 9, 3) := oo_181 (b1 := 0) (b2 := 9) rfl (dl3 b_dX8_init_0 4 rfl)
theorem dX8_init_9 : decode cX8_init 9 = .ok (.aload_n 0, 1) := oo_42 (dl3 b_dX8_init_0 5 rfl)
theorem dX8_init_10 : decode cX8_init 10 = .ok (.aload_n 2, 1) := oo_44 (dl3 b_dX8_init_0 6 rfl)
theorem dX8_init_11 : decode cX8_init 11 = .ok (.putfield 15, 3) := oo_181 (b1 := 0) (b2 := 15) rfl (dl3 b_dX8_init_0 7 rfl)
theorem dX8_init_14 : decode cX8_init 14 = .ok (.aload_n 0, 1) := oo_42 (dl3 b_dX8_init_0 8 rfl)
theorem dX8_init_15 : decode cX8_init 15 = .ok (.aload_n 3, 1) := oo_45 (dl3 b_dX8_init_0 9 rfl)
theorem dX8_init_16 : decode cX8_init 16 = .ok (.putfield 19, 3) := oo_181 (b1 := 0) (b2 := 19) rfl (dl3 b_dX8_init_0 10 rfl)
theorem dX8_init_19 : decode cX8_init 19 = .ok (.aload_n 0, 1) := oo_42 (dl3 b_dX8_init_0 11 rfl)
theorem dX8_init_20 : decode cX8_init 20 = .ok (.iload 4, 2) := oo_21 (b1 := 4) (dl3 b_dX8_init_0 12 rfl)
theorem dX8_init_22 : decode cX8_init 22 = .ok (.putfield 23, 3) := oo_181 (b1 := 0) (b2 := 23) rfl (dl3 b_dX8_init_0 13 rfl)
theorem dX8_init_25 : decode cX8_init 25 = .ok (.return_, 1) := oo_177 (dl3 b_dX8_init_0 14 rfl)
def l_dX8_begin_0 : List (Nat × List Nat) := [(0, [42]), (1, [180, 0, 19]), (4, [42]), (5, [181, 0, 26]), (8, [42]), (9, [180, 0, 19]), (12, [89]), (13, [180, 0, 32]), (16, [4]), (17, [96]), (18, [181, 0, 32]), (21, [42]), (22, [180, 0, 15]), (25, [89]), (26, [180, 0, 35]), (29, [4]), (30, [96]), (31, [181, 0, 35]), (34, [42]), (35, [180, 0, 15]), (38, [89]), (39, [180, 0, 38]), (42, [4]), (43, [96]), (44, [181, 0, 38]), (47, [177])]
theorem b_dX8_begin_0 : chkB l_dX8_begin_0 0 (cX8_begin.data.toList.drop 0) = true := by decide +kernel
theorem dX8_begin_0 : decode cX8_begin 0 = .ok (.aload_n 0, 1) := oo_42 (dl3 b_dX8_begin_0 0 rfl)
theorem dX8_begin_1 : decode cX8_begin 1 = .ok (.getfield 19, 3) := oo_180 (b1 := 0) (b2 := 19) rfl (dl3 b_dX8_begin_0 1 rfl)
theorem dX8_begin_4 : decode cX8_begin 4 = .ok (.aload_n 0, 1) := oo_42 (dl3 b_dX8_begin_0 2 rfl)
theorem dX8_begin_5 : decode cX8_begin 5 = .ok (.putfield 26, 3) := oo_181 (b1 := 0) (b2 := 26) rfl (dl3 b_dX8_begin_0 3 rfl)
theorem dX8_begin_8 : decode cX8_begin 8 = .ok (.aload_n 0, 1) := oo_42 (dl3 b_dX8_begin_0 4 rfl)
theorem dX8_begin_9 : decode cX8_begin 9 = .ok (.getfield 19, 3) := oo_180 (b1 := 0) (b2 := 19) rfl (dl3 b_dX8_begin_0 5 rfl)
theorem dX8_begin_12 : decode cX8_begin 12 = .ok (.dup, 1) := oo_89 (dl3 b_dX8_begin_0 6 rfl)
theorem dX8_begin_13 : decode cX8_begin 13 = .ok (.getfield 32, 3) := oo_180 (b1 := 0) (b2 := 32) rfl (dl3 b_dX8_begin_0 7 rfl)
theorem dX8_begin_16 : decode cX8_begin 16 = .ok (.iconst 1, 1) := oo_4 (dl3 b_dX8_begin_0 8 rfl)
theorem dX8_begin_17 : decode cX8_begin 17 = .ok (.iadd, 1) := oo_96 (dl3 b_dX8_begin_0 9 rfl)
theorem dX8_begin_18 : decode cX8_begin 18 = .ok (.putfield 32, 3) := oo_181 (b1 := 0) (b2 := 32) rfl (dl3 b_dX8_begin_0 10 rfl)
theorem dX8_begin_21 : decode cX8_begin 21 = .ok (.aload_n 0, 1) := oo_42 (dl3 b_dX8_begin_0 11 rfl)
theorem dX8_begin_22 : decode cX8_begin 22 = .ok (.getfield 15, 3) := oo_180 (b1 := 0) (b2 := 15) rfl (dl3 b_dX8_begin_0 12 rfl)
theorem dX8_begin_25 : decode cX8_begin 25 = .ok (.dup, 1) := oo_89 (dl3 b_dX8_begin_0 13 rfl)
theorem dX8_begin_26 : decode cX8_begin 26 = .ok (.getfield 35, 3) := oo_180 (b1 := 0) (b2 := 35) rfl (dl3 b_dX8_begin_0 14 rfl)
theorem dX8_begin_29 : decode cX8_begin 29 = .ok (.iconst 1, 1) := oo_4 (dl3 b_dX8_begin_0 15 rfl)
theorem dX8_begin_30 : decode cX8_begin 30 = .ok (.iadd, 1) := oo_96 (dl3 b_dX8_begin_0 16 rfl)
theorem dX8_begin_31 : decode cX8_begin 31 = .ok (.putfield 35, 3) := oo_181 (b1 := 0) (b2 := 35) rfl (dl3 b_dX8_begin_0 17 rfl)
theorem dX8_begin_34 : decode cX8_begin 34 = .ok (.aload_n 0, 1) := oo_42 (dl3 b_dX8_begin_0 18 rfl)
theorem dX8_begin_35 : decode cX8_begin 35 = .ok (.getfield 15, 3) := oo_180 (b1 := 0) (b2 := 15) rfl (dl3 b_dX8_begin_0 19 rfl)
theorem dX8_begin_38 : decode cX8_begin 38 = .ok (.dup, 1) := oo_89 (dl3 b_dX8_begin_0 20 rfl)
theorem dX8_begin_39 : decode cX8_begin 39 = .ok (.getfield 38, 3) := oo_180 (b1 := 0) (b2 := 38) rfl (dl3 b_dX8_begin_0 21 rfl)
theorem dX8_begin_42 : decode cX8_begin 42 = .ok (.iconst 1, 1) := oo_4 (dl3 b_dX8_begin_0 22 rfl)
theorem dX8_begin_43 : decode cX8_begin 43 = .ok (.iadd, 1) := oo_96 (dl3 b_dX8_begin_0 23 rfl)
theorem dX8_begin_44 : decode cX8_begin 44 = .ok (.putfield 38, 3) := oo_181 (b1 := 0) (b2 := 38) rfl (dl3 b_dX8_begin_0 24 rfl)
theorem dX8_begin_47 : decode cX8_begin 47 = .ok (.return_, 1) := oo_177 (dl3 b_dX8_begin_0 25 rfl)
set_option maxRecDepth 20000 in
theorem ggX8_end_X2_debtTaken : GoodIn wsX8_end wsX2_debtTaken := goodIn_r _ [22, 23, 59, 60, 61, 62, 63, 64, 65, 66, 67, 68, 69, 70] rfl (by decide +kernel)
set_option maxRecDepth 20000 in
theorem gX8_end_X2_debtTaken_u41X1 : GoodIn wsX8_end (va_wsU RX8 41 RX1 "TributePitches$Gang" ⟨"TributePitches$Gang", "debtTaken", "()J"⟩ yX2_debtTaken wsX2_debtTaken) := goodIn_app (goodIn_of _ (by decide +kernel)) ggX8_end_X2_debtTaken
set_option maxRecDepth 20000 in
theorem gX8_end_X2_debtTaken : GoodIn wsX8_end (wsV RX8 41 RX2 yX2_debtTaken wsX2_debtTaken) := goodIn_app (goodIn_r _ [24, 20, 25, 21] rfl (by decide +kernel)) ggX8_end_X2_debtTaken
set_option maxRecDepth 20000 in
theorem ggX8_end_X4_debtTaken : GoodIn wsX8_end wsX4_debtTaken := goodIn_r _ [30, 31, 32, 33, 59, 60, 61, 62, 63, 64, 65, 66, 67, 68, 69, 70] rfl (by decide +kernel)
set_option maxRecDepth 20000 in
theorem gX8_end_X4_debtTaken_u41X4 : GoodIn wsX8_end (va_wsO RX8 41 RX4 "TributePitches$Gang" ⟨"TributePitches$Gang", "debtTaken", "()J"⟩ yX4_debtTaken wsX4_debtTaken) := goodIn_app (goodIn_of _ (by decide +kernel)) ggX8_end_X4_debtTaken
set_option maxRecDepth 20000 in
theorem ggX8_end_X1_costsBorne : GoodIn wsX8_end wsX1_costsBorne := goodIn_r _ [40, 41] rfl (by decide +kernel)
set_option maxRecDepth 20000 in
theorem gX8_end_X1_costsBorne_u54X1 : GoodIn wsX8_end (va_wsO RX8 54 RX1 "TributePitches$Gang" ⟨"TributePitches$Gang", "costsBorne", "(J)J"⟩ yX1_costsBorne wsX1_costsBorne) := goodIn_app (goodIn_of _ (by decide +kernel)) ggX8_end_X1_costsBorne
set_option maxRecDepth 20000 in
theorem ggX8_end_X2_costsBorne : GoodIn wsX8_end wsX2_costsBorne := goodIn_r _ [42] rfl (by decide +kernel)
set_option maxRecDepth 20000 in
theorem gX8_end_X2_costsBorne : GoodIn wsX8_end (wsV RX8 54 RX2 yX2_costsBorne wsX2_costsBorne) := goodIn_app (goodIn_r _ [43, 44, 45, 21] rfl (by decide +kernel)) ggX8_end_X2_costsBorne
set_option maxRecDepth 20000 in
theorem gX8_end_X1_costsBorne_u54X4 : GoodIn wsX8_end (va_wsO RX8 54 RX4 "TributePitches$Gang" ⟨"TributePitches$Gang", "costsBorne", "(J)J"⟩ yX1_costsBorne wsX1_costsBorne) := goodIn_app (goodIn_of _ (by decide +kernel)) ggX8_end_X1_costsBorne
def l_dX8_end_0 : List (Nat × List Nat) := [(0, [42]), (1, [180, 0, 15]), (4, [182, 0, 41]), (7, [64]), (8, [42]), (9, [180, 0, 23]), (12, [133]), (13, [42]), (14, [180, 0, 45]), (17, [105]), (18, [20, 0, 49]), (21, [109]), (22, [42]), (23, [180, 0, 15]), (26, [42]), (27, [180, 0, 51]), (30, [182, 0, 54]), (33, [101]), (34, [42]), (35, [180, 0, 58]), (38, [101]), (39, [31]), (40, [101]), (41, [66]), (42, [42]), (43, [33]), (44, [9]), (45, [184, 0, 61]), (48, [181, 0, 67]), (51, [42]), (52, [180, 0, 15]), (55, [89]), (56, [180, 0, 70]), (59, [42]), (60, [180, 0, 67]), (63, [33]), (64, [101]), (65, [31]), (66, [101]), (67, [97]), (68, [181, 0, 70]), (71, [42]), (72, [4]), (73, [181, 0, 73]), (76, [42]), (77, [180, 0, 15]), (80, [89]), (81, [180, 0, 38]), (84, [4]), (85, [100]), (86, [181, 0, 38]), (89, [42]), (90, [180, 0, 19]), (93, [1]), (94, [181, 0, 26]), (97, [177])]
theorem b_dX8_end_0 : chkB l_dX8_end_0 0 (cX8_end.data.toList.drop 0) = true := by decide +kernel
theorem dX8_end_0 : decode cX8_end 0 = .ok (.aload_n 0, 1) := oo_42 (dl3 b_dX8_end_0 0 rfl)
theorem dX8_end_1 : decode cX8_end 1 = .ok (.getfield 15, 3) := oo_180 (b1 := 0) (b2 := 15) rfl (dl3 b_dX8_end_0 1 rfl)
theorem dX8_end_4 : decode cX8_end 4 = .ok (.invokevirtual 41, 3) := oo_182 (b1 := 0) (b2 := 41) rfl (dl3 b_dX8_end_0 2 rfl)
theorem dX8_end_7 : decode cX8_end 7 = .ok (.lstore_n 1, 1) := oo_64 (dl3 b_dX8_end_0 3 rfl)
theorem dX8_end_8 : decode cX8_end 8 = .ok (.aload_n 0, 1) := oo_42 (dl3 b_dX8_end_0 4 rfl)
theorem dX8_end_9 : decode cX8_end 9 = .ok (.getfield 23, 3) := oo_180 (b1 := 0) (b2 := 23) rfl (dl3 b_dX8_end_0 5 rfl)
theorem dX8_end_12 : decode cX8_end 12 = .ok (.i2l, 1) := oo_133 (dl3 b_dX8_end_0 6 rfl)
theorem dX8_end_13 : decode cX8_end 13 = .ok (.aload_n 0, 1) := oo_42 (dl3 b_dX8_end_0 7 rfl)
theorem dX8_end_14 : decode cX8_end 14 = .ok (.getfield 45, 3) := oo_180 (b1 := 0) (b2 := 45) rfl (dl3 b_dX8_end_0 8 rfl)
theorem dX8_end_17 : decode cX8_end 17 = .ok (.lmul, 1) := oo_105 (dl3 b_dX8_end_0 9 rfl)
theorem dX8_end_18 : decode cX8_end 18 = .ok (.ldc2_w 49, 3) := oo_20 (b1 := 0) (b2 := 49) rfl (dl3 b_dX8_end_0 10 rfl)
theorem dX8_end_21 : decode cX8_end 21 = .ok (.ldiv, 1) := oo_109 (dl3 b_dX8_end_0 11 rfl)
theorem dX8_end_22 : decode cX8_end 22 = .ok (.aload_n 0, 1) := oo_42 (dl3 b_dX8_end_0 12 rfl)
theorem dX8_end_23 : decode cX8_end 23 = .ok (.getfield 15, 3) := oo_180 (b1 := 0) (b2 := 15) rfl (dl3 b_dX8_end_0 13 rfl)
theorem dX8_end_26 : decode cX8_end 26 = .ok (.aload_n 0, 1) := oo_42 (dl3 b_dX8_end_0 14 rfl)
theorem dX8_end_27 : decode cX8_end 27 = .ok (.getfield 51, 3) := oo_180 (b1 := 0) (b2 := 51) rfl (dl3 b_dX8_end_0 15 rfl)
theorem dX8_end_30 : decode cX8_end 30 = .ok (.invokevirtual 54, 3) := oo_182 (b1 := 0) (b2 := 54) rfl (dl3 b_dX8_end_0 16 rfl)
theorem dX8_end_33 : decode cX8_end 33 = .ok (.lsub, 1) := oo_101 (dl3 b_dX8_end_0 17 rfl)
theorem dX8_end_34 : decode cX8_end 34 = .ok (.aload_n 0, 1) := oo_42 (dl3 b_dX8_end_0 18 rfl)
theorem dX8_end_35 : decode cX8_end 35 = .ok (.getfield 58, 3) := oo_180 (b1 := 0) (b2 := 58) rfl (dl3 b_dX8_end_0 19 rfl)
theorem dX8_end_38 : decode cX8_end 38 = .ok (.lsub, 1) := oo_101 (dl3 b_dX8_end_0 20 rfl)
theorem dX8_end_39 : decode cX8_end 39 = .ok (.lload_n 1, 1) := oo_31 (dl3 b_dX8_end_0 21 rfl)
theorem dX8_end_40 : decode cX8_end 40 = .ok (.lsub, 1) := oo_101 (dl3 b_dX8_end_0 22 rfl)
theorem dX8_end_41 : decode cX8_end 41 = .ok (.lstore_n 3, 1) := oo_66 (dl3 b_dX8_end_0 23 rfl)
theorem dX8_end_42 : decode cX8_end 42 = .ok (.aload_n 0, 1) := oo_42 (dl3 b_dX8_end_0 24 rfl)
theorem dX8_end_43 : decode cX8_end 43 = .ok (.lload_n 3, 1) := oo_33 (dl3 b_dX8_end_0 25 rfl)
theorem dX8_end_44 : decode cX8_end 44 = .ok (.lconst 0, 1) := oo_9 (dl3 b_dX8_end_0 26 rfl)
theorem dX8_end_45 : decode cX8_end 45 = .ok (.invokestatic 61, 3) := oo_184 (b1 := 0) (b2 := 61) rfl (dl3 b_dX8_end_0 27 rfl)
theorem dX8_end_48 : decode cX8_end 48 = .ok (.putfield 67, 3) := oo_181 (b1 := 0) (b2 := 67) rfl (dl3 b_dX8_end_0 28 rfl)
theorem dX8_end_51 : decode cX8_end 51 = .ok (.aload_n 0, 1) := oo_42 (dl3 b_dX8_end_0 29 rfl)
theorem dX8_end_52 : decode cX8_end 52 = .ok (.getfield 15, 3) := oo_180 (b1 := 0) (b2 := 15) rfl (dl3 b_dX8_end_0 30 rfl)
theorem dX8_end_55 : decode cX8_end 55 = .ok (.dup, 1) := oo_89 (dl3 b_dX8_end_0 31 rfl)
theorem dX8_end_56 : decode cX8_end 56 = .ok (.getfield 70, 3) := oo_180 (b1 := 0) (b2 := 70) rfl (dl3 b_dX8_end_0 32 rfl)
theorem dX8_end_59 : decode cX8_end 59 = .ok (.aload_n 0, 1) := oo_42 (dl3 b_dX8_end_0 33 rfl)
theorem dX8_end_60 : decode cX8_end 60 = .ok (.getfield 67, 3) := oo_180 (b1 := 0) (b2 := 67) rfl (dl3 b_dX8_end_0 34 rfl)
theorem dX8_end_63 : decode cX8_end 63 = .ok (.lload_n 3, 1) := oo_33 (dl3 b_dX8_end_0 35 rfl)
theorem dX8_end_64 : decode cX8_end 64 = .ok (.lsub, 1) := oo_101 (dl3 b_dX8_end_0 36 rfl)
theorem dX8_end_65 : decode cX8_end 65 = .ok (.lload_n 1, 1) := oo_31 (dl3 b_dX8_end_0 37 rfl)
theorem dX8_end_66 : decode cX8_end 66 = .ok (.lsub, 1) := oo_101 (dl3 b_dX8_end_0 38 rfl)
theorem dX8_end_67 : decode cX8_end 67 = .ok (.ladd, 1) := oo_97 (dl3 b_dX8_end_0 39 rfl)
theorem dX8_end_68 : decode cX8_end 68 = .ok (.putfield 70, 3) := oo_181 (b1 := 0) (b2 := 70) rfl (dl3 b_dX8_end_0 40 rfl)
theorem dX8_end_71 : decode cX8_end 71 = .ok (.aload_n 0, 1) := oo_42 (dl3 b_dX8_end_0 41 rfl)
theorem dX8_end_72 : decode cX8_end 72 = .ok (.iconst 1, 1) := oo_4 (dl3 b_dX8_end_0 42 rfl)
theorem dX8_end_73 : decode cX8_end 73 = .ok (.putfield 73, 3) := oo_181 (b1 := 0) (b2 := 73) rfl (dl3 b_dX8_end_0 43 rfl)
theorem dX8_end_76 : decode cX8_end 76 = .ok (.aload_n 0, 1) := oo_42 (dl3 b_dX8_end_0 44 rfl)
theorem dX8_end_77 : decode cX8_end 77 = .ok (.getfield 15, 3) := oo_180 (b1 := 0) (b2 := 15) rfl (dl3 b_dX8_end_0 45 rfl)
theorem dX8_end_80 : decode cX8_end 80 = .ok (.dup, 1) := oo_89 (dl3 b_dX8_end_0 46 rfl)
theorem dX8_end_81 : decode cX8_end 81 = .ok (.getfield 38, 3) := oo_180 (b1 := 0) (b2 := 38) rfl (dl3 b_dX8_end_0 47 rfl)
theorem dX8_end_84 : decode cX8_end 84 = .ok (.iconst 1, 1) := oo_4 (dl3 b_dX8_end_0 48 rfl)
theorem dX8_end_85 : decode cX8_end 85 = .ok (.isub, 1) := oo_100 (dl3 b_dX8_end_0 49 rfl)
theorem dX8_end_86 : decode cX8_end 86 = .ok (.putfield 38, 3) := oo_181 (b1 := 0) (b2 := 38) rfl (dl3 b_dX8_end_0 50 rfl)
theorem dX8_end_89 : decode cX8_end 89 = .ok (.aload_n 0, 1) := oo_42 (dl3 b_dX8_end_0 51 rfl)
theorem dX8_end_90 : decode cX8_end 90 = .ok (.getfield 19, 3) := oo_180 (b1 := 0) (b2 := 19) rfl (dl3 b_dX8_end_0 52 rfl)
theorem dX8_end_93 : decode cX8_end 93 = .ok (.aconst_null, 1) := oo_1 (dl3 b_dX8_end_0 53 rfl)
theorem dX8_end_94 : decode cX8_end 94 = .ok (.putfield 26, 3) := oo_181 (b1 := 0) (b2 := 26) rfl (dl3 b_dX8_end_0 54 rfl)
theorem dX8_end_97 : decode cX8_end 97 = .ok (.return_, 1) := oo_177 (dl3 b_dX8_end_0 55 rfl)
def l_dX9_init_0 : List (Nat × List Nat) := [(0, [42]), (1, [183, 0, 1]), (4, [177])]
theorem b_dX9_init_0 : chkB l_dX9_init_0 0 (cX9_init.data.toList.drop 0) = true := by decide +kernel
theorem dX9_init_0 : decode cX9_init 0 = .ok (.aload_n 0, 1) := oo_42 (dl3 b_dX9_init_0 0 rfl)
theorem dX9_init_1 : decode cX9_init 1 = .ok (.invokespecial 1, 3) := oo_183 (b1 := 0) (b2 := 1) rfl (dl3 b_dX9_init_0 1 rfl)
theorem dX9_init_4 : decode cX9_init 4 = .ok (.return_, 1) := oo_177 (dl3 b_dX9_init_0 2 rfl)
def l_dX9_leave_0 : List (Nat × List Nat) := [(0, [42]), (1, [16, 31]), (3, [42]), (4, [180, 0, 7]), (7, [104]), (8, [27]), (9, [96]), (10, [181, 0, 7]), (13, [177])]
theorem b_dX9_leave_0 : chkB l_dX9_leave_0 0 (cX9_leave.data.toList.drop 0) = true := by decide +kernel
theorem dX9_leave_0 : decode cX9_leave 0 = .ok (.aload_n 0, 1) := oo_42 (dl3 b_dX9_leave_0 0 rfl)
theorem dX9_leave_1 : decode cX9_leave 1 = .ok (.bipush 31, 2) := oo_16 (b1 := 31) rfl (dl3 b_dX9_leave_0 1 rfl)
theorem dX9_leave_3 : decode cX9_leave 3 = .ok (.aload_n 0, 1) := oo_42 (dl3 b_dX9_leave_0 2 rfl)
theorem dX9_leave_4 : decode cX9_leave 4 = .ok (.getfield 7, 3) := oo_180 (b1 := 0) (b2 := 7) rfl (dl3 b_dX9_leave_0 3 rfl)
theorem dX9_leave_7 : decode cX9_leave 7 = .ok (.imul, 1) := oo_104 (dl3 b_dX9_leave_0 4 rfl)
theorem dX9_leave_8 : decode cX9_leave 8 = .ok (.iload_n 1, 1) := oo_27 (dl3 b_dX9_leave_0 5 rfl)
theorem dX9_leave_9 : decode cX9_leave 9 = .ok (.iadd, 1) := oo_96 (dl3 b_dX9_leave_0 6 rfl)
theorem dX9_leave_10 : decode cX9_leave 10 = .ok (.putfield 7, 3) := oo_181 (b1 := 0) (b2 := 7) rfl (dl3 b_dX9_leave_0 7 rfl)
theorem dX9_leave_13 : decode cX9_leave 13 = .ok (.return_, 1) := oo_177 (dl3 b_dX9_leave_0 8 rfl)
set_option maxRecDepth 20000 in
theorem ggX10_init_X3_init : GoodIn wsX10_init wsX3_init := goodIn_r _ [27, 28, 2, 3, 29, 30, 31, 32, 33, 34, 35, 36, 37, 38, 47, 48, 49, 50, 51] rfl (by decide +kernel)
set_option maxRecDepth 20000 in
theorem gX10_init_X3_init : GoodIn wsX10_init (wsX3_init) := ggX10_init_X3_init
set_option maxRecDepth 20000 in
theorem ggX10_init_X7_init : GoodIn wsX10_init wsX7_init := goodIn_r _ [40, 41, 2, 3, 29, 42, 43, 65, 66, 67] rfl (by decide +kernel)
set_option maxRecDepth 20000 in
theorem gX10_init_X7_init_n44 : GoodIn wsX10_init (wsX7_init) := ggX10_init_X7_init
set_option maxRecDepth 20000 in
theorem ggX10_init_X9_init : GoodIn wsX10_init wsX9_init := goodIn_r _ [45, 46, 2, 3] rfl (by decide +kernel)
set_option maxRecDepth 20000 in
theorem gX10_init_X9_init_n51 : GoodIn wsX10_init (wsX9_init) := ggX10_init_X9_init
def l_dX10_init_0 : List (Nat × List Nat) := [(0, [42]), (1, [183, 0, 3]), (4, [42]), (5, [187, 0, 9]), (8, [89]), (9, [183, 0, 11]), (12, [181, 0, 12]), (15, [42]), (16, [16, 12]), (18, [189, 0, 18]), (21, [181, 0, 20]), (24, [42]), (25, [16, 8]), (27, [189, 0, 24]), (30, [181, 0, 26]), (33, [42]), (34, [16, 40]), (36, [189, 0, 30]), (39, [181, 0, 32]), (42, [42]), (43, [16, 80]), (45, [189, 0, 36]), (48, [181, 0, 38]), (51, [42]), (52, [7]), (53, [189, 0, 42]), (56, [89]), (57, [3]), (58, [187, 0, 42]), (61, [89]), (62, [183, 0, 44]), (65, [83]), (66, [89]), (67, [4]), (68, [187, 0, 42]), (71, [89]), (72, [183, 0, 44]), (75, [83]), (76, [89]), (77, [5]), (78, [187, 0, 42]), (81, [89]), (82, [183, 0, 44]), (85, [83]), (86, [89]), (87, [6]), (88, [187, 0, 42]), (91, [89]), (92, [183, 0, 44]), (95, [83]), (96, [181, 0, 45]), (99, [42]), (100, [187, 0, 49]), (103, [89]), (104, [183, 0, 51]), (107, [181, 0, 52]), (110, [42]), (111, [3]), (112, [181, 0, 56]), (115, [177])]
theorem b_dX10_init_0 : chkB l_dX10_init_0 0 (cX10_init.data.toList.drop 0) = true := by decide +kernel
theorem dX10_init_0 : decode cX10_init 0 = .ok (.aload_n 0, 1) := oo_42 (dl3 b_dX10_init_0 0 rfl)
theorem dX10_init_1 : decode cX10_init 1 = .ok (.invokespecial 3, 3) := oo_183 (b1 := 0) (b2 := 3) rfl (dl3 b_dX10_init_0 1 rfl)
theorem dX10_init_4 : decode cX10_init 4 = .ok (.aload_n 0, 1) := oo_42 (dl3 b_dX10_init_0 2 rfl)
theorem dX10_init_5 : decode cX10_init 5 = .ok (.new 9, 3) := oo_187 (b1 := 0) (b2 := 9) rfl (dl3 b_dX10_init_0 3 rfl)
theorem dX10_init_8 : decode cX10_init 8 = .ok (.dup, 1) := oo_89 (dl3 b_dX10_init_0 4 rfl)
theorem dX10_init_9 : decode cX10_init 9 = .ok (.invokespecial 11, 3) := oo_183 (b1 := 0) (b2 := 11) rfl (dl3 b_dX10_init_0 5 rfl)
theorem dX10_init_12 : decode cX10_init 12 = .ok (.putfield 12, 3) := oo_181 (b1 := 0) (b2 := 12) rfl (dl3 b_dX10_init_0 6 rfl)
theorem dX10_init_15 : decode cX10_init 15 = .ok (.aload_n 0, 1) := oo_42 (dl3 b_dX10_init_0 7 rfl)
theorem dX10_init_16 : decode cX10_init 16 = .ok (.bipush 12, 2) := oo_16 (b1 := 12) rfl (dl3 b_dX10_init_0 8 rfl)
theorem dX10_init_18 : decode cX10_init 18 = .ok (.anewarray 18, 3) := oo_189 (b1 := 0) (b2 := 18) rfl (dl3 b_dX10_init_0 9 rfl)
theorem dX10_init_21 : decode cX10_init 21 = .ok (.putfield 20, 3) := oo_181 (b1 := 0) (b2 := 20) rfl (dl3 b_dX10_init_0 10 rfl)
theorem dX10_init_24 : decode cX10_init 24 = .ok (.aload_n 0, 1) := oo_42 (dl3 b_dX10_init_0 11 rfl)
theorem dX10_init_25 : decode cX10_init 25 = .ok (.bipush 8, 2) := oo_16 (b1 := 8) rfl (dl3 b_dX10_init_0 12 rfl)
theorem dX10_init_27 : decode cX10_init 27 = .ok (.anewarray 24, 3) := oo_189 (b1 := 0) (b2 := 24) rfl (dl3 b_dX10_init_0 13 rfl)
theorem dX10_init_30 : decode cX10_init 30 = .ok (.putfield 26, 3) := oo_181 (b1 := 0) (b2 := 26) rfl (dl3 b_dX10_init_0 14 rfl)
theorem dX10_init_33 : decode cX10_init 33 = .ok (.aload_n 0, 1) := oo_42 (dl3 b_dX10_init_0 15 rfl)
theorem dX10_init_34 : decode cX10_init 34 = .ok (.bipush 40, 2) := oo_16 (b1 := 40) rfl (dl3 b_dX10_init_0 16 rfl)
theorem dX10_init_36 : decode cX10_init 36 = .ok (.anewarray 30, 3) := oo_189 (b1 := 0) (b2 := 30) rfl (dl3 b_dX10_init_0 17 rfl)
theorem dX10_init_39 : decode cX10_init 39 = .ok (.putfield 32, 3) := oo_181 (b1 := 0) (b2 := 32) rfl (dl3 b_dX10_init_0 18 rfl)
theorem dX10_init_42 : decode cX10_init 42 = .ok (.aload_n 0, 1) := oo_42 (dl3 b_dX10_init_0 19 rfl)
theorem dX10_init_43 : decode cX10_init 43 = .ok (.bipush 80, 2) := oo_16 (b1 := 80) rfl (dl3 b_dX10_init_0 20 rfl)
theorem dX10_init_45 : decode cX10_init 45 = .ok (.anewarray 36, 3) := oo_189 (b1 := 0) (b2 := 36) rfl (dl3 b_dX10_init_0 21 rfl)
theorem dX10_init_48 : decode cX10_init 48 = .ok (.putfield 38, 3) := oo_181 (b1 := 0) (b2 := 38) rfl (dl3 b_dX10_init_0 22 rfl)
theorem dX10_init_51 : decode cX10_init 51 = .ok (.aload_n 0, 1) := oo_42 (dl3 b_dX10_init_0 23 rfl)
theorem dX10_init_52 : decode cX10_init 52 = .ok (.iconst 4, 1) := oo_7 (dl3 b_dX10_init_0 24 rfl)
theorem dX10_init_53 : decode cX10_init 53 = .ok (.anewarray 42, 3) := oo_189 (b1 := 0) (b2 := 42) rfl (dl3 b_dX10_init_0 25 rfl)
theorem dX10_init_56 : decode cX10_init 56 = .ok (.dup, 1) := oo_89 (dl3 b_dX10_init_0 26 rfl)
theorem dX10_init_57 : decode cX10_init 57 = .ok (.iconst 0, 1) := oo_3 (dl3 b_dX10_init_0 27 rfl)
theorem dX10_init_58 : decode cX10_init 58 = .ok (.new 42, 3) := oo_187 (b1 := 0) (b2 := 42) rfl (dl3 b_dX10_init_0 28 rfl)
theorem dX10_init_61 : decode cX10_init 61 = .ok (.dup, 1) := oo_89 (dl3 b_dX10_init_0 29 rfl)
theorem dX10_init_62 : decode cX10_init 62 = .ok (.invokespecial 44, 3) := oo_183 (b1 := 0) (b2 := 44) rfl (dl3 b_dX10_init_0 30 rfl)
theorem dX10_init_65 : decode cX10_init 65 = .ok (.aastore, 1) := oo_83 (dl3 b_dX10_init_0 31 rfl)
theorem dX10_init_66 : decode cX10_init 66 = .ok (.dup, 1) := oo_89 (dl3 b_dX10_init_0 32 rfl)
theorem dX10_init_67 : decode cX10_init 67 = .ok (.iconst 1, 1) := oo_4 (dl3 b_dX10_init_0 33 rfl)
theorem dX10_init_68 : decode cX10_init 68 = .ok (.new 42, 3) := oo_187 (b1 := 0) (b2 := 42) rfl (dl3 b_dX10_init_0 34 rfl)
theorem dX10_init_71 : decode cX10_init 71 = .ok (.dup, 1) := oo_89 (dl3 b_dX10_init_0 35 rfl)
theorem dX10_init_72 : decode cX10_init 72 = .ok (.invokespecial 44, 3) := oo_183 (b1 := 0) (b2 := 44) rfl (dl3 b_dX10_init_0 36 rfl)
theorem dX10_init_75 : decode cX10_init 75 = .ok (.aastore, 1) := oo_83 (dl3 b_dX10_init_0 37 rfl)
theorem dX10_init_76 : decode cX10_init 76 = .ok (.dup, 1) := oo_89 (dl3 b_dX10_init_0 38 rfl)
theorem dX10_init_77 : decode cX10_init 77 = .ok (.iconst 2, 1) := oo_5 (dl3 b_dX10_init_0 39 rfl)
theorem dX10_init_78 : decode cX10_init 78 = .ok (.new 42, 3) := oo_187 (b1 := 0) (b2 := 42) rfl (dl3 b_dX10_init_0 40 rfl)
theorem dX10_init_81 : decode cX10_init 81 = .ok (.dup, 1) := oo_89 (dl3 b_dX10_init_0 41 rfl)
theorem dX10_init_82 : decode cX10_init 82 = .ok (.invokespecial 44, 3) := oo_183 (b1 := 0) (b2 := 44) rfl (dl3 b_dX10_init_0 42 rfl)
theorem dX10_init_85 : decode cX10_init 85 = .ok (.aastore, 1) := oo_83 (dl3 b_dX10_init_0 43 rfl)
theorem dX10_init_86 : decode cX10_init 86 = .ok (.dup, 1) := oo_89 (dl3 b_dX10_init_0 44 rfl)
theorem dX10_init_87 : decode cX10_init 87 = .ok (.iconst 3, 1) := oo_6 (dl3 b_dX10_init_0 45 rfl)
theorem dX10_init_88 : decode cX10_init 88 = .ok (.new 42, 3) := oo_187 (b1 := 0) (b2 := 42) rfl (dl3 b_dX10_init_0 46 rfl)
theorem dX10_init_91 : decode cX10_init 91 = .ok (.dup, 1) := oo_89 (dl3 b_dX10_init_0 47 rfl)
theorem dX10_init_92 : decode cX10_init 92 = .ok (.invokespecial 44, 3) := oo_183 (b1 := 0) (b2 := 44) rfl (dl3 b_dX10_init_0 48 rfl)
theorem dX10_init_95 : decode cX10_init 95 = .ok (.aastore, 1) := oo_83 (dl3 b_dX10_init_0 49 rfl)
theorem dX10_init_96 : decode cX10_init 96 = .ok (.putfield 45, 3) := oo_181 (b1 := 0) (b2 := 45) rfl (dl3 b_dX10_init_0 50 rfl)
theorem dX10_init_99 : decode cX10_init 99 = .ok (.aload_n 0, 1) := oo_42 (dl3 b_dX10_init_0 51 rfl)
theorem dX10_init_100 : decode cX10_init 100 = .ok (.new 49, 3) := oo_187 (b1 := 0) (b2 := 49) rfl (dl3 b_dX10_init_0 52 rfl)
theorem dX10_init_103 : decode cX10_init 103 = .ok (.dup, 1) := oo_89 (dl3 b_dX10_init_0 53 rfl)
theorem dX10_init_104 : decode cX10_init 104 = .ok (.invokespecial 51, 3) := oo_183 (b1 := 0) (b2 := 51) rfl (dl3 b_dX10_init_0 54 rfl)
theorem dX10_init_107 : decode cX10_init 107 = .ok (.putfield 52, 3) := oo_181 (b1 := 0) (b2 := 52) rfl (dl3 b_dX10_init_0 55 rfl)
theorem dX10_init_110 : decode cX10_init 110 = .ok (.aload_n 0, 1) := oo_42 (dl3 b_dX10_init_0 56 rfl)
theorem dX10_init_111 : decode cX10_init 111 = .ok (.iconst 0, 1) := oo_3 (dl3 b_dX10_init_0 57 rfl)
theorem dX10_init_112 : decode cX10_init 112 = .ok (.putfield 56, 3) := oo_181 (b1 := 0) (b2 := 56) rfl (dl3 b_dX10_init_0 58 rfl)
theorem dX10_init_115 : decode cX10_init 115 = .ok (.return_, 1) := oo_177 (dl3 b_dX10_init_0 59 rfl)
set_option maxRecDepth 20000 in
theorem ggX10_find_X3_hasSquare : GoodIn wsX10_find wsX3_hasSquare := goodIn_r _ [6, 7, 8, 9] rfl (by decide +kernel)
set_option maxRecDepth 20000 in
theorem gX10_find_X3_hasSquare : GoodIn wsX10_find (va_wsS RX10 60 yX3_hasSquare wsX3_hasSquare) := goodIn_app (goodIn_r _ [3, 4, 5] rfl (by decide +kernel)) ggX10_find_X3_hasSquare
set_option maxRecDepth 20000 in
theorem ggX10_find_X10_isWithin : GoodIn wsX10_find wsX10_isWithin := goodIn_r _ [9] rfl (by decide +kernel)
set_option maxRecDepth 20000 in
theorem gX10_find_X10_isWithin : GoodIn wsX10_find (va_wsS RX10 64 yX10_isWithin wsX10_isWithin) := goodIn_app (goodIn_r _ [10, 7, 8] rfl (by decide +kernel)) ggX10_find_X10_isWithin
set_option maxRecDepth 20000 in
theorem ggX10_find_X3_beginTrial : GoodIn wsX10_find wsX3_beginTrial := goodIn_r _ [14, 15, 16, 17, 18, 19, 20, 21, 22, 64, 65, 66, 67, 68] rfl (by decide +kernel)
set_option maxRecDepth 20000 in
theorem gX10_find_X3_beginTrial : GoodIn wsX10_find (wsV RX10 68 RX3 yX3_beginTrial wsX3_beginTrial) := goodIn_app (goodIn_r _ [11, 12, 13, 5] rfl (by decide +kernel)) ggX10_find_X3_beginTrial
set_option maxRecDepth 20000 in
theorem ggX10_find_X3_numberOf : GoodIn wsX10_find wsX3_numberOf := goodIn_r _ [25] rfl (by decide +kernel)
set_option maxRecDepth 20000 in
theorem gX10_find_X3_numberOf : GoodIn wsX10_find (va_wsS RX10 71 yX3_numberOf wsX3_numberOf) := goodIn_app (goodIn_r _ [23, 24, 5] rfl (by decide +kernel)) ggX10_find_X3_numberOf
set_option maxRecDepth 20000 in
theorem ggX10_find_X3_tryCommon : GoodIn wsX10_find wsX3_tryCommon := goodIn_r _ [29, 16, 30, 31, 32, 33, 22, 34, 35, 36, 64, 65, 66, 67, 68] rfl (by decide +kernel)
set_option maxRecDepth 20000 in
theorem gX10_find_X3_tryCommon : GoodIn wsX10_find (wsV RX10 75 RX3 yX3_tryCommon wsX3_tryCommon) := goodIn_app (goodIn_r _ [26, 27, 28, 5] rfl (by decide +kernel)) ggX10_find_X3_tryCommon
set_option maxRecDepth 20000 in
theorem ggX10_find_X3_endTrial : GoodIn wsX10_find wsX3_endTrial := goodIn_r _ [40, 16, 22, 15, 21, 17, 18, 19, 20, 41, 42, 43, 44, 5, 45, 46, 47, 48, 49, 50, 27, 28, 29, 30, 31, 32, 33, 34, 35, 36, 64, 65, 66, 67, 68] rfl (by decide +kernel)
set_option maxRecDepth 20000 in
theorem gX10_find_X3_endTrial : GoodIn wsX10_find (wsV RX10 82 RX3 yX3_endTrial wsX3_endTrial) := goodIn_app (goodIn_r _ [37, 38, 39, 5] rfl (by decide +kernel)) ggX10_find_X3_endTrial
def l_dX10_find_0 : List (Nat × List Nat) := [(0, [27]), (1, [28]), (2, [184, 0, 60]), (5, [154, 0, 5]), (8, [2]), (9, [172]), (10, [29]), (11, [3]), (12, [17, 3, 232]), (15, [184, 0, 64]), (18, [153, 0, 21]), (21, [21, 4]), (23, [3]), (24, [17, 3, 232]), (27, [184, 0, 64]), (30, [153, 0, 9]), (33, [29]), (34, [21, 4]), (36, [164, 0, 6]), (39, [16, 254]), (41, [172]), (42, [42]), (43, [180, 0, 12]), (46, [182, 0, 68]), (49, [42]), (50, [180, 0, 12]), (53, [27]), (54, [28]), (55, [184, 0, 71]), (58, [29]), (59, [21, 4]), (61, [182, 0, 75]), (64, [42]), (65, [180, 0, 12]), (68, [42]), (69, [180, 0, 12]), (72, [180, 0, 79]), (75, [182, 0, 82]), (78, [172])]
theorem b_dX10_find_0 : chkB l_dX10_find_0 0 (cX10_find.data.toList.drop 0) = true := by decide +kernel
theorem dX10_find_0 : decode cX10_find 0 = .ok (.iload_n 1, 1) := oo_27 (dl3 b_dX10_find_0 0 rfl)
theorem dX10_find_1 : decode cX10_find 1 = .ok (.iload_n 2, 1) := oo_28 (dl3 b_dX10_find_0 1 rfl)
theorem dX10_find_2 : decode cX10_find 2 = .ok (.invokestatic 60, 3) := oo_184 (b1 := 0) (b2 := 60) rfl (dl3 b_dX10_find_0 2 rfl)
theorem dX10_find_5 : decode cX10_find 5 = .ok (.ifCond .ne 5, 3) := oo_154 (b1 := 0) (b2 := 5) rfl (dl3 b_dX10_find_0 3 rfl)
theorem dX10_find_8 : decode cX10_find 8 = .ok (.iconst (-1), 1) := oo_2 (dl3 b_dX10_find_0 4 rfl)
theorem dX10_find_9 : decode cX10_find 9 = .ok (.ireturn, 1) := oo_172 (dl3 b_dX10_find_0 5 rfl)
theorem dX10_find_10 : decode cX10_find 10 = .ok (.iload_n 3, 1) := oo_29 (dl3 b_dX10_find_0 6 rfl)
theorem dX10_find_11 : decode cX10_find 11 = .ok (.iconst 0, 1) := oo_3 (dl3 b_dX10_find_0 7 rfl)
theorem dX10_find_12 : decode cX10_find 12 = .ok (.sipush 1000, 3) := oo_17 (b1 := 3) (b2 := 232) rfl (dl3 b_dX10_find_0 8 rfl)
theorem dX10_find_15 : decode cX10_find 15 = .ok (.invokestatic 64, 3) := oo_184 (b1 := 0) (b2 := 64) rfl (dl3 b_dX10_find_0 9 rfl)
theorem dX10_find_18 : decode cX10_find 18 = .ok (.ifCond .eq 21, 3) := oo_153 (b1 := 0) (b2 := 21) rfl (dl3 b_dX10_find_0 10 rfl)
theorem dX10_find_21 : decode cX10_find 21 = .ok (.iload 4, 2) := oo_21 (b1 := 4) (dl3 b_dX10_find_0 11 rfl)
theorem dX10_find_23 : decode cX10_find 23 = .ok (.iconst 0, 1) := oo_3 (dl3 b_dX10_find_0 12 rfl)
theorem dX10_find_24 : decode cX10_find 24 = .ok (.sipush 1000, 3) := oo_17 (b1 := 3) (b2 := 232) rfl (dl3 b_dX10_find_0 13 rfl)
theorem dX10_find_27 : decode cX10_find 27 = .ok (.invokestatic 64, 3) := oo_184 (b1 := 0) (b2 := 64) rfl (dl3 b_dX10_find_0 14 rfl)
theorem dX10_find_30 : decode cX10_find 30 = .ok (.ifCond .eq 9, 3) := oo_153 (b1 := 0) (b2 := 9) rfl (dl3 b_dX10_find_0 15 rfl)
theorem dX10_find_33 : decode cX10_find 33 = .ok (.iload_n 3, 1) := oo_29 (dl3 b_dX10_find_0 16 rfl)
theorem dX10_find_34 : decode cX10_find 34 = .ok (.iload 4, 2) := oo_21 (b1 := 4) (dl3 b_dX10_find_0 17 rfl)
theorem dX10_find_36 : decode cX10_find 36 = .ok (.if_icmp .le 6, 3) := oo_164 (b1 := 0) (b2 := 6) rfl (dl3 b_dX10_find_0 18 rfl)
theorem dX10_find_39 : decode cX10_find 39 = .ok (.bipush (-2), 2) := oo_16 (b1 := 254) rfl (dl3 b_dX10_find_0 19 rfl)
theorem dX10_find_41 : decode cX10_find 41 = .ok (.ireturn, 1) := oo_172 (dl3 b_dX10_find_0 20 rfl)
theorem dX10_find_42 : decode cX10_find 42 = .ok (.aload_n 0, 1) := oo_42 (dl3 b_dX10_find_0 21 rfl)
theorem dX10_find_43 : decode cX10_find 43 = .ok (.getfield 12, 3) := oo_180 (b1 := 0) (b2 := 12) rfl (dl3 b_dX10_find_0 22 rfl)
theorem dX10_find_46 : decode cX10_find 46 = .ok (.invokevirtual 68, 3) := oo_182 (b1 := 0) (b2 := 68) rfl (dl3 b_dX10_find_0 23 rfl)
theorem dX10_find_49 : decode cX10_find 49 = .ok (.aload_n 0, 1) := oo_42 (dl3 b_dX10_find_0 24 rfl)
theorem dX10_find_50 : decode cX10_find 50 = .ok (.getfield 12, 3) := oo_180 (b1 := 0) (b2 := 12) rfl (dl3 b_dX10_find_0 25 rfl)
theorem dX10_find_53 : decode cX10_find 53 = .ok (.iload_n 1, 1) := oo_27 (dl3 b_dX10_find_0 26 rfl)
theorem dX10_find_54 : decode cX10_find 54 = .ok (.iload_n 2, 1) := oo_28 (dl3 b_dX10_find_0 27 rfl)
theorem dX10_find_55 : decode cX10_find 55 = .ok (.invokestatic 71, 3) := oo_184 (b1 := 0) (b2 := 71) rfl (dl3 b_dX10_find_0 28 rfl)
theorem dX10_find_58 : decode cX10_find 58 = .ok (.iload_n 3, 1) := oo_29 (dl3 b_dX10_find_0 29 rfl)
theorem dX10_find_59 : decode cX10_find 59 = .ok (.iload 4, 2) := oo_21 (b1 := 4) (dl3 b_dX10_find_0 30 rfl)
theorem dX10_find_61 : decode cX10_find 61 = .ok (.invokevirtual 75, 3) := oo_182 (b1 := 0) (b2 := 75) rfl (dl3 b_dX10_find_0 31 rfl)
theorem dX10_find_64 : decode cX10_find 64 = .ok (.aload_n 0, 1) := oo_42 (dl3 b_dX10_find_0 32 rfl)
theorem dX10_find_65 : decode cX10_find 65 = .ok (.getfield 12, 3) := oo_180 (b1 := 0) (b2 := 12) rfl (dl3 b_dX10_find_0 33 rfl)
theorem dX10_find_68 : decode cX10_find 68 = .ok (.aload_n 0, 1) := oo_42 (dl3 b_dX10_find_0 34 rfl)
theorem dX10_find_69 : decode cX10_find 69 = .ok (.getfield 12, 3) := oo_180 (b1 := 0) (b2 := 12) rfl (dl3 b_dX10_find_0 35 rfl)
theorem dX10_find_72 : decode cX10_find 72 = .ok (.getfield 79, 3) := oo_180 (b1 := 0) (b2 := 79) rfl (dl3 b_dX10_find_0 36 rfl)
theorem dX10_find_75 : decode cX10_find 75 = .ok (.invokevirtual 82, 3) := oo_182 (b1 := 0) (b2 := 82) rfl (dl3 b_dX10_find_0 37 rfl)
theorem dX10_find_78 : decode cX10_find 78 = .ok (.ireturn, 1) := oo_172 (dl3 b_dX10_find_0 38 rfl)
set_option maxRecDepth 20000 in
theorem ggX10_rise_X10_isWithin : GoodIn wsX10_rise wsX10_isWithin := goodIn_r _ [6] rfl (by decide +kernel)
set_option maxRecDepth 20000 in
theorem gX10_rise_X10_isWithin : GoodIn wsX10_rise (va_wsS RX10 64 yX10_isWithin wsX10_isWithin) := goodIn_app (goodIn_r _ [3, 4, 5] rfl (by decide +kernel)) ggX10_rise_X10_isWithin
set_option maxRecDepth 20000 in
theorem ggX10_rise_X3_beginTrial : GoodIn wsX10_rise wsX3_beginTrial := goodIn_r _ [11, 12, 13, 14, 15, 16, 17, 18, 19, 57, 58, 59, 60, 61] rfl (by decide +kernel)
set_option maxRecDepth 20000 in
theorem gX10_rise_X3_beginTrial : GoodIn wsX10_rise (wsV RX10 68 RX3 yX3_beginTrial wsX3_beginTrial) := goodIn_app (goodIn_r _ [7, 8, 9, 10] rfl (by decide +kernel)) ggX10_rise_X3_beginTrial
set_option maxRecDepth 20000 in
theorem ggX10_rise_X3_endTrial : GoodIn wsX10_rise wsX3_endTrial := goodIn_r _ [23, 13, 19, 12, 18, 14, 15, 16, 17, 24, 25, 26, 27, 10, 28, 29, 30, 31, 32, 33, 34, 35, 36, 37, 38, 39, 40, 41, 42, 43, 57, 58, 59, 60, 61] rfl (by decide +kernel)
set_option maxRecDepth 20000 in
theorem gX10_rise_X3_endTrial : GoodIn wsX10_rise (wsV RX10 82 RX3 yX3_endTrial wsX3_endTrial) := goodIn_app (goodIn_r _ [20, 21, 22, 10] rfl (by decide +kernel)) ggX10_rise_X3_endTrial
def l_dX10_rise_0 : List (Nat × List Nat) := [(0, [27]), (1, [3]), (2, [17, 3, 232]), (5, [184, 0, 64]), (8, [154, 0, 6]), (11, [16, 254]), (13, [172]), (14, [27]), (15, [42]), (16, [180, 0, 12]), (19, [180, 0, 79]), (22, [164, 0, 6]), (25, [16, 253]), (27, [172]), (28, [42]), (29, [180, 0, 12]), (32, [182, 0, 68]), (35, [42]), (36, [180, 0, 12]), (39, [27]), (40, [182, 0, 82]), (43, [172])]
theorem b_dX10_rise_0 : chkB l_dX10_rise_0 0 (cX10_rise.data.toList.drop 0) = true := by decide +kernel
theorem dX10_rise_0 : decode cX10_rise 0 = .ok (.iload_n 1, 1) := oo_27 (dl3 b_dX10_rise_0 0 rfl)
theorem dX10_rise_1 : decode cX10_rise 1 = .ok (.iconst 0, 1) := oo_3 (dl3 b_dX10_rise_0 1 rfl)
theorem dX10_rise_2 : decode cX10_rise 2 = .ok (.sipush 1000, 3) := oo_17 (b1 := 3) (b2 := 232) rfl (dl3 b_dX10_rise_0 2 rfl)
theorem dX10_rise_5 : decode cX10_rise 5 = .ok (.invokestatic 64, 3) := oo_184 (b1 := 0) (b2 := 64) rfl (dl3 b_dX10_rise_0 3 rfl)
theorem dX10_rise_8 : decode cX10_rise 8 = .ok (.ifCond .ne 6, 3) := oo_154 (b1 := 0) (b2 := 6) rfl (dl3 b_dX10_rise_0 4 rfl)
theorem dX10_rise_11 : decode cX10_rise 11 = .ok (.bipush (-2), 2) := oo_16 (b1 := 254) rfl (dl3 b_dX10_rise_0 5 rfl)
theorem dX10_rise_13 : decode cX10_rise 13 = .ok (.ireturn, 1) := oo_172 (dl3 b_dX10_rise_0 6 rfl)
theorem dX10_rise_14 : decode cX10_rise 14 = .ok (.iload_n 1, 1) := oo_27 (dl3 b_dX10_rise_0 7 rfl)
theorem dX10_rise_15 : decode cX10_rise 15 = .ok (.aload_n 0, 1) := oo_42 (dl3 b_dX10_rise_0 8 rfl)
theorem dX10_rise_16 : decode cX10_rise 16 = .ok (.getfield 12, 3) := oo_180 (b1 := 0) (b2 := 12) rfl (dl3 b_dX10_rise_0 9 rfl)
theorem dX10_rise_19 : decode cX10_rise 19 = .ok (.getfield 79, 3) := oo_180 (b1 := 0) (b2 := 79) rfl (dl3 b_dX10_rise_0 10 rfl)
theorem dX10_rise_22 : decode cX10_rise 22 = .ok (.if_icmp .le 6, 3) := oo_164 (b1 := 0) (b2 := 6) rfl (dl3 b_dX10_rise_0 11 rfl)
theorem dX10_rise_25 : decode cX10_rise 25 = .ok (.bipush (-3), 2) := oo_16 (b1 := 253) rfl (dl3 b_dX10_rise_0 12 rfl)
theorem dX10_rise_27 : decode cX10_rise 27 = .ok (.ireturn, 1) := oo_172 (dl3 b_dX10_rise_0 13 rfl)
theorem dX10_rise_28 : decode cX10_rise 28 = .ok (.aload_n 0, 1) := oo_42 (dl3 b_dX10_rise_0 14 rfl)
theorem dX10_rise_29 : decode cX10_rise 29 = .ok (.getfield 12, 3) := oo_180 (b1 := 0) (b2 := 12) rfl (dl3 b_dX10_rise_0 15 rfl)
theorem dX10_rise_32 : decode cX10_rise 32 = .ok (.invokevirtual 68, 3) := oo_182 (b1 := 0) (b2 := 68) rfl (dl3 b_dX10_rise_0 16 rfl)
theorem dX10_rise_35 : decode cX10_rise 35 = .ok (.aload_n 0, 1) := oo_42 (dl3 b_dX10_rise_0 17 rfl)
theorem dX10_rise_36 : decode cX10_rise 36 = .ok (.getfield 12, 3) := oo_180 (b1 := 0) (b2 := 12) rfl (dl3 b_dX10_rise_0 18 rfl)
theorem dX10_rise_39 : decode cX10_rise 39 = .ok (.iload_n 1, 1) := oo_27 (dl3 b_dX10_rise_0 19 rfl)
theorem dX10_rise_40 : decode cX10_rise 40 = .ok (.invokevirtual 82, 3) := oo_182 (b1 := 0) (b2 := 82) rfl (dl3 b_dX10_rise_0 20 rfl)
theorem dX10_rise_43 : decode cX10_rise 43 = .ok (.ireturn, 1) := oo_172 (dl3 b_dX10_rise_0 21 rfl)
set_option maxRecDepth 20000 in
theorem ggX10_good_X3_hasSquare : GoodIn wsX10_good wsX3_hasSquare := goodIn_r _ [7, 8, 9, 10] rfl (by decide +kernel)
set_option maxRecDepth 20000 in
theorem gX10_good_X3_hasSquare : GoodIn wsX10_good (va_wsS RX10 60 yX3_hasSquare wsX3_hasSquare) := goodIn_app (goodIn_r _ [4, 5, 6] rfl (by decide +kernel)) ggX10_good_X3_hasSquare
set_option maxRecDepth 20000 in
theorem ggX10_good_X10_isWithin : GoodIn wsX10_good wsX10_isWithin := goodIn_r _ [10] rfl (by decide +kernel)
set_option maxRecDepth 20000 in
theorem gX10_good_X10_isWithin : GoodIn wsX10_good (va_wsS RX10 64 yX10_isWithin wsX10_isWithin) := goodIn_app (goodIn_r _ [11, 8, 9] rfl (by decide +kernel)) ggX10_good_X10_isWithin
set_option maxRecDepth 20000 in
theorem ggX10_good_X3_numberOf : GoodIn wsX10_good wsX3_numberOf := goodIn_r _ [14] rfl (by decide +kernel)
set_option maxRecDepth 20000 in
theorem gX10_good_X3_numberOf : GoodIn wsX10_good (va_wsS RX10 71 yX3_numberOf wsX3_numberOf) := goodIn_app (goodIn_r _ [12, 13, 6] rfl (by decide +kernel)) ggX10_good_X3_numberOf
def l_dX10_good_0 : List (Nat × List Nat) := [(0, [27]), (1, [28]), (2, [184, 0, 60]), (5, [154, 0, 5]), (8, [2]), (9, [172]), (10, [29]), (11, [3]), (12, [4]), (13, [184, 0, 64]), (16, [154, 0, 6]), (19, [16, 254]), (21, [172]), (22, [27]), (23, [28]), (24, [184, 0, 71]), (27, [54, 4]), (29, [29]), (30, [154, 0, 16]), (33, [42]), (34, [180, 0, 12]), (37, [180, 0, 86]), (40, [21, 4]), (42, [46]), (43, [167, 0, 13])]
theorem b_dX10_good_0 : chkB l_dX10_good_0 0 (cX10_good.data.toList.drop 0) = true := by decide +kernel
theorem dX10_good_0 : decode cX10_good 0 = .ok (.iload_n 1, 1) := oo_27 (dl3 b_dX10_good_0 0 rfl)
theorem dX10_good_1 : decode cX10_good 1 = .ok (.iload_n 2, 1) := oo_28 (dl3 b_dX10_good_0 1 rfl)
theorem dX10_good_2 : decode cX10_good 2 = .ok (.invokestatic 60, 3) := oo_184 (b1 := 0) (b2 := 60) rfl (dl3 b_dX10_good_0 2 rfl)
theorem dX10_good_5 : decode cX10_good 5 = .ok (.ifCond .ne 5, 3) := oo_154 (b1 := 0) (b2 := 5) rfl (dl3 b_dX10_good_0 3 rfl)
theorem dX10_good_8 : decode cX10_good 8 = .ok (.iconst (-1), 1) := oo_2 (dl3 b_dX10_good_0 4 rfl)
theorem dX10_good_9 : decode cX10_good 9 = .ok (.ireturn, 1) := oo_172 (dl3 b_dX10_good_0 5 rfl)
theorem dX10_good_10 : decode cX10_good 10 = .ok (.iload_n 3, 1) := oo_29 (dl3 b_dX10_good_0 6 rfl)
theorem dX10_good_11 : decode cX10_good 11 = .ok (.iconst 0, 1) := oo_3 (dl3 b_dX10_good_0 7 rfl)
theorem dX10_good_12 : decode cX10_good 12 = .ok (.iconst 1, 1) := oo_4 (dl3 b_dX10_good_0 8 rfl)
theorem dX10_good_13 : decode cX10_good 13 = .ok (.invokestatic 64, 3) := oo_184 (b1 := 0) (b2 := 64) rfl (dl3 b_dX10_good_0 9 rfl)
theorem dX10_good_16 : decode cX10_good 16 = .ok (.ifCond .ne 6, 3) := oo_154 (b1 := 0) (b2 := 6) rfl (dl3 b_dX10_good_0 10 rfl)
theorem dX10_good_19 : decode cX10_good 19 = .ok (.bipush (-2), 2) := oo_16 (b1 := 254) rfl (dl3 b_dX10_good_0 11 rfl)
theorem dX10_good_21 : decode cX10_good 21 = .ok (.ireturn, 1) := oo_172 (dl3 b_dX10_good_0 12 rfl)
theorem dX10_good_22 : decode cX10_good 22 = .ok (.iload_n 1, 1) := oo_27 (dl3 b_dX10_good_0 13 rfl)
theorem dX10_good_23 : decode cX10_good 23 = .ok (.iload_n 2, 1) := oo_28 (dl3 b_dX10_good_0 14 rfl)
theorem dX10_good_24 : decode cX10_good 24 = .ok (.invokestatic 71, 3) := oo_184 (b1 := 0) (b2 := 71) rfl (dl3 b_dX10_good_0 15 rfl)
theorem dX10_good_27 : decode cX10_good 27 = .ok (.istore 4, 2) := oo_54 (b1 := 4) (dl3 b_dX10_good_0 16 rfl)
theorem dX10_good_29 : decode cX10_good 29 = .ok (.iload_n 3, 1) := oo_29 (dl3 b_dX10_good_0 17 rfl)
theorem dX10_good_30 : decode cX10_good 30 = .ok (.ifCond .ne 16, 3) := oo_154 (b1 := 0) (b2 := 16) rfl (dl3 b_dX10_good_0 18 rfl)
theorem dX10_good_33 : decode cX10_good 33 = .ok (.aload_n 0, 1) := oo_42 (dl3 b_dX10_good_0 19 rfl)
theorem dX10_good_34 : decode cX10_good 34 = .ok (.getfield 12, 3) := oo_180 (b1 := 0) (b2 := 12) rfl (dl3 b_dX10_good_0 20 rfl)
theorem dX10_good_37 : decode cX10_good 37 = .ok (.getfield 86, 3) := oo_180 (b1 := 0) (b2 := 86) rfl (dl3 b_dX10_good_0 21 rfl)
theorem dX10_good_40 : decode cX10_good 40 = .ok (.iload 4, 2) := oo_21 (b1 := 4) (dl3 b_dX10_good_0 22 rfl)
theorem dX10_good_42 : decode cX10_good 42 = .ok (.iaload, 1) := oo_46 (dl3 b_dX10_good_0 23 rfl)
theorem dX10_good_43 : decode cX10_good 43 = .ok (.goto 13, 3) := oo_167 (b1 := 0) (b2 := 13) rfl (dl3 b_dX10_good_0 24 rfl)
