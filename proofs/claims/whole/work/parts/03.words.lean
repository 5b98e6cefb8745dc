def TBG : List Cond := lw_tbl.filter goodWord
theorem TBG_in : ∀ w ∈ TBG, w ∈ lw_tbl := fun w h => (List.mem_filter.mp h).1
theorem TBG_gd {w : Cond} (h : w ∈ TBG) : (w.onTables && w.keeps) = true ∨ ∃ ty, w = .arrayClass ty := good_of_word (List.mem_filter.mp h).2
theorem tbq {w : Cond} (h : w ∈ tables_1) (g : goodWord w = true) : w ∈ TBG := List.mem_filter.mpr ⟨List.mem_append_right _ h, g⟩
theorem tbs {w : Cond} (h : w ∈ k2_sels lw_privs) (g : goodWord w = true) : w ∈ TBG := List.mem_filter.mpr ⟨List.mem_append_left _ h, g⟩
theorem tbt_1 {w : Cond} (h : w ∈ tables_1_1) (g : goodWord w = true) : w ∈ TBG := tbq (List.mem_append_left _ h) g
theorem tbl_1 {w : Cond} (h : w ∈ tables_1_1) : w ∈ lw_tbl := List.mem_append_right _ (List.mem_append_left _ h)
theorem tbt_2 {w : Cond} (h : w ∈ tables_1_2) (g : goodWord w = true) : w ∈ TBG := tbq (List.mem_append_right _ (List.mem_append_left _ h)) g
theorem tbl_2 {w : Cond} (h : w ∈ tables_1_2) : w ∈ lw_tbl := List.mem_append_right _ (List.mem_append_right _ (List.mem_append_left _ h))
theorem tbt_3 {w : Cond} (h : w ∈ tables_1_3) (g : goodWord w = true) : w ∈ TBG := tbq (List.mem_append_right _ (List.mem_append_right _ (List.mem_append_left _ h))) g
theorem tbl_3 {w : Cond} (h : w ∈ tables_1_3) : w ∈ lw_tbl := List.mem_append_right _ (List.mem_append_right _ (List.mem_append_right _ (List.mem_append_left _ h)))
theorem tbt_4 {w : Cond} (h : w ∈ tables_1_4) (g : goodWord w = true) : w ∈ TBG := tbq (List.mem_append_right _ (List.mem_append_right _ (List.mem_append_right _ (List.mem_append_left _ h)))) g
theorem tbl_4 {w : Cond} (h : w ∈ tables_1_4) : w ∈ lw_tbl := List.mem_append_right _ (List.mem_append_right _ (List.mem_append_right _ (List.mem_append_right _ (List.mem_append_left _ h))))
theorem tbt_5 {w : Cond} (h : w ∈ tables_1_5) (g : goodWord w = true) : w ∈ TBG := tbq (List.mem_append_right _ (List.mem_append_right _ (List.mem_append_right _ (List.mem_append_right _ (List.mem_append_left _ h))))) g
theorem tbl_5 {w : Cond} (h : w ∈ tables_1_5) : w ∈ lw_tbl := List.mem_append_right _ (List.mem_append_right _ (List.mem_append_right _ (List.mem_append_right _ (List.mem_append_right _ (List.mem_append_left _ h)))))
theorem tbt_6 {w : Cond} (h : w ∈ tables_1_6) (g : goodWord w = true) : w ∈ TBG := tbq (List.mem_append_right _ (List.mem_append_right _ (List.mem_append_right _ (List.mem_append_right _ (List.mem_append_right _ (h)))))) g
theorem tbl_6 {w : Cond} (h : w ∈ tables_1_6) : w ∈ lw_tbl := List.mem_append_right _ (List.mem_append_right _ (List.mem_append_right _ (List.mem_append_right _ (List.mem_append_right _ (List.mem_append_right _ (h))))))
theorem q0 : (.initialized RL : Cond) ∈ TBG := tbt_1 (List.mem_of_getElem? (i := 0) rfl) rfl
theorem q1 : (.initialized RX7 : Cond) ∈ TBG := tbt_1 (List.mem_of_getElem? (i := 1) rfl) rfl
theorem q2 : (.initialized RX5 : Cond) ∈ TBG := tbt_1 (List.mem_of_getElem? (i := 2) rfl) rfl
theorem q3 : (.initialized RX3 : Cond) ∈ TBG := tbt_1 (List.mem_of_getElem? (i := 3) rfl) rfl
theorem q4 : (.initialized RX1 : Cond) ∈ TBG := tbt_1 (List.mem_of_getElem? (i := 4) rfl) rfl
theorem q5 : (.initialized RX0 : Cond) ∈ TBG := tbt_1 (List.mem_of_getElem? (i := 5) rfl) rfl
theorem q6 : (.initialized RX6 : Cond) ∈ TBG := tbt_1 (List.mem_of_getElem? (i := 6) rfl) rfl
theorem q7 : (.initialized RX2 : Cond) ∈ TBG := tbt_1 (List.mem_of_getElem? (i := 7) rfl) rfl
theorem q8 : (.initialized RX4 : Cond) ∈ TBG := tbt_1 (List.mem_of_getElem? (i := 8) rfl) rfl
theorem q9 : (.initialized RX8 : Cond) ∈ TBG := tbt_1 (List.mem_of_getElem? (i := 9) rfl) rfl
theorem q10 : (.initialized "java/lang/Throwable" : Cond) ∈ TBG := tbt_1 (List.mem_of_getElem? (i := 10) rfl) rfl
theorem q11 : (.initialized "java/lang/Exception" : Cond) ∈ TBG := tbt_1 (List.mem_of_getElem? (i := 11) rfl) rfl
theorem q12 : (.initialized "java/lang/RuntimeException" : Cond) ∈ TBG := tbt_1 (List.mem_of_getElem? (i := 12) rfl) rfl
theorem q13 : (.initialized "java/lang/IllegalArgumentException" : Cond) ∈ TBG := tbt_1 (List.mem_of_getElem? (i := 13) rfl) rfl
theorem q14 : (.initialized "java/lang/IndexOutOfBoundsException" : Cond) ∈ TBG := tbt_1 (List.mem_of_getElem? (i := 14) rfl) rfl
theorem q15 : (.initialized RJ9 : Cond) ∈ TBG := tbt_1 (List.mem_of_getElem? (i := 15) rfl) rfl
theorem q16 : (.initialized "java/lang/IllegalStateException" : Cond) ∈ TBG := tbt_1 (List.mem_of_getElem? (i := 16) rfl) rfl
theorem q17 : (.initialized RJxe99ae : Cond) ∈ TBG := tbt_1 (List.mem_of_getElem? (i := 17) rfl) rfl
theorem q18 : (.classLink RL 8 RX7 : Cond) ∈ TBG := tbt_1 (List.mem_of_getElem? (i := 18) rfl) rfl
theorem q19 : (.instantiable RX7 8 : Cond) ∈ TBG := tbt_1 (List.mem_of_getElem? (i := 19) rfl) rfl
theorem q20 : (.methodLink RL 80 yX7_init : Cond) ∈ TBG := tbt_1 (List.mem_of_getElem? (i := 20) rfl) rfl
theorem q21 : (.instanceMethod yX7_init : Cond) ∈ TBG := tbt_1 (List.mem_of_getElem? (i := 21) rfl) rfl
theorem q22 : (.code yX7_init cX7_init 1 none : Cond) ∈ TBG := tbt_1 (List.mem_of_getElem? (i := 22) rfl) rfl
theorem q23 : (.methodLink RX7 1 objectInit : Cond) ∈ TBG := tbt_1 (List.mem_of_getElem? (i := 23) rfl) rfl
theorem q24 : (.instanceMethod objectInit : Cond) ∈ TBG := tbt_1 (List.mem_of_getElem? (i := 24) rfl) rfl
theorem q25 : (.code objectInit object_method_1_code 1 none : Cond) ∈ TBG := tbt_1 (List.mem_of_getElem? (i := 25) rfl) rfl
theorem q26 : (.classLink RX7 7 RX5 : Cond) ∈ TBG := tbt_1 (List.mem_of_getElem? (i := 26) rfl) rfl
theorem q27 : (.instantiable RX5 8 : Cond) ∈ TBG := tbt_1 (List.mem_of_getElem? (i := 27) rfl) rfl
theorem q28 : (.methodLink RX7 9 yX5_init : Cond) ∈ TBG := tbt_1 (List.mem_of_getElem? (i := 28) rfl) rfl
theorem q29 : (.instanceMethod yX5_init : Cond) ∈ TBG := tbt_1 (List.mem_of_getElem? (i := 29) rfl) rfl
theorem q30 : (.code yX5_init cX5_init 1 none : Cond) ∈ TBG := tbt_1 (List.mem_of_getElem? (i := 30) rfl) rfl
theorem q31 : (.methodLink RX5 3 objectInit : Cond) ∈ TBG := tbt_1 (List.mem_of_getElem? (i := 31) rfl) rfl
theorem q32 : (.methodLinkNest RX5 37 yX7_setIn RX7 : Cond) ∈ lw_tbl := tbl_1 (List.mem_of_getElem? (i := 32) rfl)
theorem q33 : (.static yX7_setIn : Cond) ∈ TBG := tbt_1 (List.mem_of_getElem? (i := 33) rfl) rfl
theorem q34 : (.code yX7_setIn cX7_setIn 3 none : Cond) ∈ TBG := tbt_1 (List.mem_of_getElem? (i := 34) rfl) rfl
theorem q35 : (.fieldLink RX5 9 "LeastRows$State" "rows" "I" : Cond) ∈ TBG := tbt_1 (List.mem_of_getElem? (i := 35) rfl) rfl
theorem q36 : (.fieldLink RX1 38 "LeastRows$State" "rows" "I" : Cond) ∈ TBG := tbt_1 (List.mem_of_getElem? (i := 36) rfl) rfl
theorem q37 : (.fieldLink RX7 81 "LeastRows$State" "rows" "I" : Cond) ∈ TBG := tbt_1 (List.mem_of_getElem? (i := 37) rfl) rfl
theorem q38 : (.fieldLink RX3 31 "LeastRows$State" "rows" "I" : Cond) ∈ TBG := tbt_1 (List.mem_of_getElem? (i := 38) rfl) rfl
theorem q39 : (.fieldLink RX5 15 "LeastRows$State" "columns" "I" : Cond) ∈ TBG := tbt_1 (List.mem_of_getElem? (i := 39) rfl) rfl
theorem q40 : (.fieldLink RX1 43 "LeastRows$State" "columns" "I" : Cond) ∈ TBG := tbt_1 (List.mem_of_getElem? (i := 40) rfl) rfl
theorem q41 : (.fieldLink RX7 85 "LeastRows$State" "columns" "I" : Cond) ∈ TBG := tbt_1 (List.mem_of_getElem? (i := 41) rfl) rfl
theorem q42 : (.fieldLink RX3 36 "LeastRows$State" "columns" "I" : Cond) ∈ TBG := tbt_1 (List.mem_of_getElem? (i := 42) rfl) rfl
theorem q43 : (.fieldLink RX5 18 "LeastRows$State" "weightCount" "I" : Cond) ∈ TBG := tbt_1 (List.mem_of_getElem? (i := 43) rfl) rfl
theorem q44 : (.fieldLink RX0 28 "LeastRows$State" "weightCount" "I" : Cond) ∈ TBG := tbt_1 (List.mem_of_getElem? (i := 44) rfl) rfl
theorem q45 : (.fieldLink RX7 166 "LeastRows$State" "weightCount" "I" : Cond) ∈ TBG := tbt_1 (List.mem_of_getElem? (i := 45) rfl) rfl
theorem q46 : (.fieldLink RX5 21 "LeastRows$State" "looksCounted" "I" : Cond) ∈ TBG := tbt_1 (List.mem_of_getElem? (i := 46) rfl) rfl
theorem q47 : (.fieldLink RX7 158 "LeastRows$State" "looksCounted" "I" : Cond) ∈ TBG := tbt_1 (List.mem_of_getElem? (i := 47) rfl) rfl
theorem q48 : (.fieldLink RX5 24 "LeastRows$State" "timesFound" "I" : Cond) ∈ TBG := tbt_1 (List.mem_of_getElem? (i := 48) rfl) rfl
theorem q49 : (.fieldLink RX7 161 "LeastRows$State" "timesFound" "I" : Cond) ∈ TBG := tbt_1 (List.mem_of_getElem? (i := 49) rfl) rfl
theorem q50 : (.fieldLink RX5 27 "LeastRows$State" "timesMended" "I" : Cond) ∈ TBG := tbt_1 (List.mem_of_getElem? (i := 50) rfl) rfl
theorem q51 : (.fieldLink RX7 133 "LeastRows$State" "timesMended" "I" : Cond) ∈ TBG := tbt_1 (List.mem_of_getElem? (i := 51) rfl) rfl
theorem q52 : (.fieldLink RX5 30 "LeastRows$State" "cells" "[I" : Cond) ∈ TBG := tbt_1 (List.mem_of_getElem? (i := 52) rfl) rfl
theorem q53 : (.fieldLink RX5 34 "LeastRows$State" "weights" "[I" : Cond) ∈ TBG := tbt_1 (List.mem_of_getElem? (i := 53) rfl) rfl
theorem q54 : (.arrayClass .int : Cond) ∈ TBG := tbt_1 (List.mem_of_getElem? (i := 71) rfl) rfl
theorem q55 : (.classLink RX7 16 RX3 : Cond) ∈ TBG := tbt_1 (List.mem_of_getElem? (i := 72) rfl) rfl
theorem q56 : (.instantiable RX3 5 : Cond) ∈ TBG := tbt_1 (List.mem_of_getElem? (i := 73) rfl) rfl
theorem q57 : (.methodLink RX7 18 yX3_init : Cond) ∈ TBG := tbt_1 (List.mem_of_getElem? (i := 74) rfl) rfl
theorem q58 : (.instanceMethod yX3_init : Cond) ∈ TBG := tbt_1 (List.mem_of_getElem? (i := 75) rfl) rfl
theorem q59 : (.code yX3_init cX3_init 2 none : Cond) ∈ TBG := tbt_1 (List.mem_of_getElem? (i := 76) rfl) rfl
theorem q60 : (.methodLink RX3 3 objectInit : Cond) ∈ TBG := tbt_1 (List.mem_of_getElem? (i := 77) rfl) rfl
theorem q61 : (.fieldLink RX3 9 "LeastRows$Rule" "row" "I" : Cond) ∈ TBG := tbt_1 (List.mem_of_getElem? (i := 78) rfl) rfl
theorem q62 : (.fieldLink RX7 124 "LeastRows$Rule" "row" "I" : Cond) ∈ TBG := tbt_1 (List.mem_of_getElem? (i := 79) rfl) rfl
theorem q63 : (.fieldLink RX3 15 "LeastRows$Rule" "left" "I" : Cond) ∈ TBG := tbt_1 (List.mem_of_getElem? (i := 80) rfl) rfl
theorem q64 : (.fieldLink RX7 130 "LeastRows$Rule" "left" "I" : Cond) ∈ TBG := tbt_1 (List.mem_of_getElem? (i := 81) rfl) rfl
theorem q65 : (.fieldLink RX3 18 "LeastRows$Rule" "right" "I" : Cond) ∈ TBG := tbt_1 (List.mem_of_getElem? (i := 82) rfl) rfl
theorem q66 : (.fieldLink RX7 127 "LeastRows$Rule" "right" "I" : Cond) ∈ TBG := tbt_1 (List.mem_of_getElem? (i := 83) rfl) rfl
theorem q67 : (.fieldLink RX3 21 "LeastRows$Rule" "witnesses" "I" : Cond) ∈ TBG := tbt_1 (List.mem_of_getElem? (i := 84) rfl) rfl
theorem q68 : (.fieldLink RX7 121 "LeastRows$Rule" "witnesses" "I" : Cond) ∈ TBG := tbt_1 (List.mem_of_getElem? (i := 85) rfl) rfl
theorem q69 : (.fieldLink RX3 24 "LeastRows$Rule" "table" "LLeastRows$State;" : Cond) ∈ TBG := tbt_1 (List.mem_of_getElem? (i := 86) rfl) rfl
theorem q70 : (.classLink RX7 25 RX1 : Cond) ∈ TBG := tbt_1 (List.mem_of_getElem? (i := 98) rfl) rfl
theorem q71 : (.instantiable RX1 7 : Cond) ∈ TBG := tbt_1 (List.mem_of_getElem? (i := 99) rfl) rfl
theorem q72 : (.methodLink RX7 27 yX1_init : Cond) ∈ TBG := tbt_1 (List.mem_of_getElem? (i := 100) rfl) rfl
theorem q73 : (.instanceMethod yX1_init : Cond) ∈ TBG := tbt_1 (List.mem_of_getElem? (i := 101) rfl) rfl
theorem q74 : (.code yX1_init cX1_init 2 none : Cond) ∈ TBG := tbt_1 (List.mem_of_getElem? (i := 102) rfl) rfl
theorem q75 : (.methodLink RX1 3 objectInit : Cond) ∈ TBG := tbt_1 (List.mem_of_getElem? (i := 103) rfl) rfl
theorem q76 : (.fieldLink RX1 31 "LeastRows$Finder" "table" "LLeastRows$State;" : Cond) ∈ TBG := tbt_1 (List.mem_of_getElem? (i := 104) rfl) rfl
theorem q77 : (.fieldLink RX1 9 "LeastRows$Finder" "places" "[I" : Cond) ∈ TBG := tbt_1 (List.mem_of_getElem? (i := 105) rfl) rfl
theorem q78 : (.fieldLink RX1 15 "LeastRows$Finder" "looksMade" "[I" : Cond) ∈ TBG := tbt_1 (List.mem_of_getElem? (i := 106) rfl) rfl
theorem q79 : (.fieldLink RX1 18 "LeastRows$Finder" "left" "[I" : Cond) ∈ TBG := tbt_1 (List.mem_of_getElem? (i := 107) rfl) rfl
theorem q80 : (.fieldLink RX1 21 "LeastRows$Finder" "leftCount" "[I" : Cond) ∈ TBG := tbt_1 (List.mem_of_getElem? (i := 108) rfl) rfl
theorem q81 : (.fieldLink RX1 24 "LeastRows$Finder" "way" "I" : Cond) ∈ TBG := tbt_1 (List.mem_of_getElem? (i := 109) rfl) rfl
theorem q82 : (.fieldLink RX1 28 "LeastRows$Finder" "looksNow" "I" : Cond) ∈ TBG := tbt_1 (List.mem_of_getElem? (i := 110) rfl) rfl
theorem q83 : (.classLink RX7 32 RX0 : Cond) ∈ TBG := tbt_1 (List.mem_of_getElem? (i := 126) rfl) rfl
theorem q84 : (.instantiable RX0 5 : Cond) ∈ TBG := tbt_1 (List.mem_of_getElem? (i := 127) rfl) rfl
theorem q85 : (.methodLink RX7 34 yX0_init : Cond) ∈ TBG := tbt_1 (List.mem_of_getElem? (i := 128) rfl) rfl
theorem q86 : (.instanceMethod yX0_init : Cond) ∈ TBG := tbt_1 (List.mem_of_getElem? (i := 129) rfl) rfl
theorem q87 : (.code yX0_init cX0_init 2 none : Cond) ∈ TBG := tbt_1 (List.mem_of_getElem? (i := 130) rfl) rfl
theorem q88 : (.methodLink RX0 3 objectInit : Cond) ∈ TBG := tbt_1 (List.mem_of_getElem? (i := 131) rfl) rfl
theorem q89 : (.fieldLink RX0 24 "LeastRows$Cutter" "state" "LLeastRows$State;" : Cond) ∈ TBG := tbt_1 (List.mem_of_getElem? (i := 132) rfl) rfl
theorem q90 : (.fieldLink RX0 11 "LeastRows$Cutter" "least" "[I" : Cond) ∈ TBG := tbt_1 (List.mem_of_getElem? (i := 133) rfl) rfl
theorem q91 : (.fieldLink RX0 15 "LeastRows$Cutter" "lastCut" "[I" : Cond) ∈ TBG := tbt_1 (List.mem_of_getElem? (i := 134) rfl) rfl
theorem q92 : (.fieldLink RX0 18 "LeastRows$Cutter" "firstTogether" "[I" : Cond) ∈ TBG := tbt_1 (List.mem_of_getElem? (i := 135) rfl) rfl
theorem q93 : (.fieldLink RX0 21 "LeastRows$Cutter" "tried" "[I" : Cond) ∈ TBG := tbt_1 (List.mem_of_getElem? (i := 136) rfl) rfl
theorem q94 : (.classLink RX7 39 RX6 : Cond) ∈ TBG := tbt_1 (List.mem_of_getElem? (i := 148) rfl) rfl
theorem q95 : (.instantiable RX6 8 : Cond) ∈ TBG := tbt_1 (List.mem_of_getElem? (i := 149) rfl) rfl
theorem q96 : (.methodLinkNest RX7 41 yX6_init RX7 : Cond) ∈ lw_tbl := tbl_1 (List.mem_of_getElem? (i := 150) rfl)
theorem q97 : (.instanceMethod yX6_init : Cond) ∈ TBG := tbt_1 (List.mem_of_getElem? (i := 151) rfl) rfl
theorem q98 : (.code yX6_init cX6_init 1 none : Cond) ∈ TBG := tbt_1 (List.mem_of_getElem? (i := 152) rfl) rfl
theorem q99 : (.methodLink RX6 3 objectInit : Cond) ∈ TBG := tbt_1 (List.mem_of_getElem? (i := 153) rfl) rfl
theorem q100 : (.fieldLink RX6 9 "LeastRows$Text" "length" "I" : Cond) ∈ TBG := tbt_1 (List.mem_of_getElem? (i := 154) rfl) rfl
theorem q101 : (.fieldLink RX7 181 "LeastRows$Text" "length" "I" : Cond) ∈ TBG := tbt_1 (List.mem_of_getElem? (i := 155) rfl) rfl
theorem q102 : (.fieldLink RX6 15 "LeastRows$Text" "codes" "[I" : Cond) ∈ TBG := tbt_1 (List.mem_of_getElem? (i := 156) rfl) rfl
theorem q103 : (.fieldLink RX6 19 "LeastRows$Text" "numbers" "[I" : Cond) ∈ TBG := tbt_1 (List.mem_of_getElem? (i := 157) rfl) rfl
theorem q104 : (.fieldLink RX6 22 "LeastRows$Text" "row" "I" : Cond) ∈ TBG := tbt_1 (List.mem_of_getElem? (i := 158) rfl) rfl
theorem q105 : (.fieldLink RX6 25 "LeastRows$Text" "column" "I" : Cond) ∈ TBG := tbt_1 (List.mem_of_getElem? (i := 159) rfl) rfl
theorem q106 : (.fieldLink RX6 28 "LeastRows$Text" "columnsOfFirst" "I" : Cond) ∈ TBG := tbt_1 (List.mem_of_getElem? (i := 160) rfl) rfl
theorem q107 : (.fieldLink RX6 31 "LeastRows$Text" "digits" "I" : Cond) ∈ TBG := tbt_1 (List.mem_of_getElem? (i := 161) rfl) rfl
theorem q108 : (.fieldLink RX6 34 "LeastRows$Text" "number" "I" : Cond) ∈ TBG := tbt_1 (List.mem_of_getElem? (i := 162) rfl) rfl
theorem q109 : (.classLink RX7 46 RX2 : Cond) ∈ TBG := tbt_1 (List.mem_of_getElem? (i := 180) rfl) rfl
theorem q110 : (.instantiable RX2 3 : Cond) ∈ TBG := tbt_1 (List.mem_of_getElem? (i := 181) rfl) rfl
theorem q111 : (.methodLink RX7 48 yX2_init : Cond) ∈ TBG := tbt_1 (List.mem_of_getElem? (i := 182) rfl) rfl
theorem q112 : (.instanceMethod yX2_init : Cond) ∈ TBG := tbt_1 (List.mem_of_getElem? (i := 183) rfl) rfl
theorem q113 : (.code yX2_init cX2_init 2 none : Cond) ∈ TBG := tbt_1 (List.mem_of_getElem? (i := 184) rfl) rfl
theorem q114 : (.methodLink RX2 3 objectInit : Cond) ∈ TBG := tbt_1 (List.mem_of_getElem? (i := 185) rfl) rfl
theorem q115 : (.classLink RX2 18 RX5 : Cond) ∈ TBG := tbt_1 (List.mem_of_getElem? (i := 186) rfl) rfl
theorem q116 : (.methodLink RX2 24 yX5_init : Cond) ∈ TBG := tbt_1 (List.mem_of_getElem? (i := 188) rfl) rfl
theorem q117 : (.fieldLink RX2 9 "LeastRows$History" "count" "I" : Cond) ∈ TBG := tbt_1 (List.mem_of_getElem? (i := 189) rfl) rfl
theorem q118 : (.fieldLink RX7 230 "LeastRows$History" "count" "I" : Cond) ∈ TBG := tbt_1 (List.mem_of_getElem? (i := 190) rfl) rfl
theorem q119 : (.fieldLink RX2 15 "LeastRows$History" "oldest" "I" : Cond) ∈ TBG := tbt_1 (List.mem_of_getElem? (i := 191) rfl) rfl
theorem q120 : (.fieldLink RX2 20 "LeastRows$History" "saved" "[LLeastRows$State;" : Cond) ∈ TBG := tbt_1 (List.mem_of_getElem? (i := 192) rfl) rfl
theorem q121 : (.classLink RX7 53 RX4 : Cond) ∈ TBG := tbt_1 (List.mem_of_getElem? (i := 200) rfl) rfl
theorem q122 : (.instantiable RX4 2 : Cond) ∈ TBG := tbt_1 (List.mem_of_getElem? (i := 201) rfl) rfl
theorem q123 : (.methodLinkNest RX7 55 yX4_init RX7 : Cond) ∈ lw_tbl := tbl_1 (List.mem_of_getElem? (i := 202) rfl)
theorem q124 : (.instanceMethod yX4_init : Cond) ∈ TBG := tbt_1 (List.mem_of_getElem? (i := 203) rfl) rfl
theorem q125 : (.code yX4_init cX4_init 1 none : Cond) ∈ TBG := tbt_1 (List.mem_of_getElem? (i := 204) rfl) rfl
theorem q126 : (.methodLink RX4 1 objectInit : Cond) ∈ TBG := tbt_1 (List.mem_of_getElem? (i := 205) rfl) rfl
theorem q127 : (.classLink RX4 13 RX5 : Cond) ∈ TBG := tbt_1 (List.mem_of_getElem? (i := 206) rfl) rfl
theorem q128 : (.methodLink RX4 15 yX5_init : Cond) ∈ TBG := tbt_1 (List.mem_of_getElem? (i := 207) rfl) rfl
theorem q129 : (.fieldLink RX4 7 "LeastRows$Slot" "isFilled" "Z" : Cond) ∈ TBG := tbt_1 (List.mem_of_getElem? (i := 208) rfl) rfl
theorem q130 : (.fieldLink RX7 218 "LeastRows$Slot" "isFilled" "Z" : Cond) ∈ TBG := tbt_1 (List.mem_of_getElem? (i := 209) rfl) rfl
theorem q131 : (.fieldLink RX4 16 "LeastRows$Slot" "snapshot" "LLeastRows$State;" : Cond) ∈ TBG := tbt_1 (List.mem_of_getElem? (i := 210) rfl) rfl
theorem q132 : (.fieldLink RX7 224 "LeastRows$Slot" "snapshot" "LLeastRows$State;" : Cond) ∈ TBG := tbt_1 (List.mem_of_getElem? (i := 211) rfl) rfl
theorem q133 : (.fieldLink RX7 10 "LeastRows" "now" "LLeastRows$State;" : Cond) ∈ TBG := tbt_1 (List.mem_of_getElem? (i := 217) rfl) rfl
theorem q134 : (.fieldLink RX7 21 "LeastRows" "rule" "LLeastRows$Rule;" : Cond) ∈ TBG := tbt_1 (List.mem_of_getElem? (i := 218) rfl) rfl
theorem q135 : (.fieldLink RX7 28 "LeastRows" "finder" "LLeastRows$Finder;" : Cond) ∈ TBG := tbt_1 (List.mem_of_getElem? (i := 219) rfl) rfl
theorem q136 : (.fieldLink RX7 35 "LeastRows" "cutter" "LLeastRows$Cutter;" : Cond) ∈ TBG := tbt_1 (List.mem_of_getElem? (i := 220) rfl) rfl
theorem q137 : (.fieldLink RX7 42 "LeastRows" "text" "LLeastRows$Text;" : Cond) ∈ TBG := tbt_1 (List.mem_of_getElem? (i := 221) rfl) rfl
theorem q138 : (.fieldLink RX7 49 "LeastRows" "history" "LLeastRows$History;" : Cond) ∈ TBG := tbt_1 (List.mem_of_getElem? (i := 222) rfl) rfl
theorem q139 : (.fieldLink RX7 56 "LeastRows" "slotZero" "LLeastRows$Slot;" : Cond) ∈ TBG := tbt_1 (List.mem_of_getElem? (i := 223) rfl) rfl
theorem q140 : (.fieldLink RX7 60 "LeastRows" "slotOne" "LLeastRows$Slot;" : Cond) ∈ TBG := tbt_1 (List.mem_of_getElem? (i := 224) rfl) rfl
theorem q141 : (.methodLink RL 101 yX7_mend : Cond) ∈ TBG := tbt_2 (List.mem_of_getElem? (i := 2) rfl) rfl
theorem q142 : (.instanceMethod yX7_mend : Cond) ∈ TBG := tbt_2 (List.mem_of_getElem? (i := 3) rfl) rfl
theorem q143 : (.selects RX7 yX7_mend yX7_mend : Cond) ∈ TBG := tbt_2 (List.mem_of_getElem? (i := 4) rfl) rfl
theorem q144 : (.code yX7_mend cX7_mend 2 (some .int) : Cond) ∈ TBG := tbt_2 (List.mem_of_getElem? (i := 5) rfl) rfl
theorem q145 : (.methodLink RX7 74 yX2_save : Cond) ∈ TBG := tbt_2 (List.mem_of_getElem? (i := 6) rfl) rfl
theorem q146 : (.instanceMethod yX2_save : Cond) ∈ TBG := tbt_2 (List.mem_of_getElem? (i := 7) rfl) rfl
theorem q147 : (.selects RX2 yX2_save yX2_save : Cond) ∈ TBG := tbt_2 (List.mem_of_getElem? (i := 8) rfl) rfl
theorem q148 : (.code yX2_save cX2_save 3 none : Cond) ∈ TBG := tbt_2 (List.mem_of_getElem? (i := 9) rfl) rfl
theorem q149 : (.methodLink RX2 25 yX2_stateAt : Cond) ∈ TBG := tbt_2 (List.mem_of_getElem? (i := 10) rfl) rfl
theorem q150 : (.instanceMethod yX2_stateAt : Cond) ∈ TBG := tbt_2 (List.mem_of_getElem? (i := 12) rfl) rfl
theorem q151 : (.code yX2_stateAt cX2_stateAt 3 (some (.object "LeastRows$State")) : Cond) ∈ TBG := tbt_2 (List.mem_of_getElem? (i := 13) rfl) rfl
theorem q152 : (.methodLink RX2 29 yX5_copyFrom : Cond) ∈ TBG := tbt_2 (List.mem_of_getElem? (i := 14) rfl) rfl
theorem q153 : (.instanceMethod yX5_copyFrom : Cond) ∈ TBG := tbt_2 (List.mem_of_getElem? (i := 15) rfl) rfl
theorem q154 : (.selects RX5 yX5_copyFrom yX5_copyFrom : Cond) ∈ TBG := tbt_2 (List.mem_of_getElem? (i := 16) rfl) rfl
theorem q155 : (.code yX5_copyFrom cX5_copyFrom 2 none : Cond) ∈ TBG := tbt_2 (List.mem_of_getElem? (i := 17) rfl) rfl
theorem q156 : (.methodLinkNest RX5 53 yX7_copyAll RX7 : Cond) ∈ lw_tbl := tbl_2 (List.mem_of_getElem? (i := 18) rfl)
theorem q157 : (.static yX7_copyAll : Cond) ∈ TBG := tbt_2 (List.mem_of_getElem? (i := 19) rfl) rfl
theorem q158 : (.code yX7_copyAll cX7_copyAll 3 none : Cond) ∈ TBG := tbt_2 (List.mem_of_getElem? (i := 20) rfl) rfl
theorem q159 : (.methodLink RX7 118 yX3_examine : Cond) ∈ TBG := tbt_2 (List.mem_of_getElem? (i := 21) rfl) rfl
theorem q160 : (.instanceMethod yX3_examine : Cond) ∈ TBG := tbt_2 (List.mem_of_getElem? (i := 22) rfl) rfl
theorem q161 : (.selects RX3 yX3_examine yX3_examine : Cond) ∈ TBG := tbt_2 (List.mem_of_getElem? (i := 23) rfl) rfl
theorem q162 : (.code yX3_examine cX3_examine 4 none : Cond) ∈ TBG := tbt_2 (List.mem_of_getElem? (i := 24) rfl) rfl
theorem q163 : (.methodLink RX3 39 yX3_isGreater : Cond) ∈ TBG := tbt_2 (List.mem_of_getElem? (i := 25) rfl) rfl
theorem q164 : (.instanceMethod yX3_isGreater : Cond) ∈ TBG := tbt_2 (List.mem_of_getElem? (i := 27) rfl) rfl
theorem q165 : (.code yX3_isGreater cX3_isGreater 4 (some .boolean) : Cond) ∈ TBG := tbt_2 (List.mem_of_getElem? (i := 28) rfl) rfl
theorem q166 : (.methodLink RX3 47 yX5_numberAt : Cond) ∈ TBG := tbt_2 (List.mem_of_getElem? (i := 29) rfl) rfl
theorem q167 : (.instanceMethod yX5_numberAt : Cond) ∈ TBG := tbt_2 (List.mem_of_getElem? (i := 30) rfl) rfl
theorem q168 : (.selects RX5 yX5_numberAt yX5_numberAt : Cond) ∈ TBG := tbt_2 (List.mem_of_getElem? (i := 31) rfl) rfl
theorem q169 : (.code yX5_numberAt cX5_numberAt 4 (some .int) : Cond) ∈ TBG := tbt_2 (List.mem_of_getElem? (i := 32) rfl) rfl
theorem q170 : (.methodLink RX3 43 yX3_note : Cond) ∈ TBG := tbt_2 (List.mem_of_getElem? (i := 33) rfl) rfl
theorem q171 : (.instanceMethod yX3_note : Cond) ∈ TBG := tbt_2 (List.mem_of_getElem? (i := 35) rfl) rfl
theorem q172 : (.code yX3_note cX3_note 4 none : Cond) ∈ TBG := tbt_2 (List.mem_of_getElem? (i := 36) rfl) rfl
theorem q173 : (.methodLink RX7 99 yX5_numberAt : Cond) ∈ TBG := tbt_2 (List.mem_of_getElem? (i := 37) rfl) rfl
theorem q174 : (.methodLink RX7 103 yX5_setNumber : Cond) ∈ TBG := tbt_2 (List.mem_of_getElem? (i := 38) rfl) rfl
theorem q175 : (.instanceMethod yX5_setNumber : Cond) ∈ TBG := tbt_2 (List.mem_of_getElem? (i := 39) rfl) rfl
theorem q176 : (.selects RX5 yX5_setNumber yX5_setNumber : Cond) ∈ TBG := tbt_2 (List.mem_of_getElem? (i := 40) rfl) rfl
theorem q177 : (.code yX5_setNumber cX5_setNumber 4 none : Cond) ∈ TBG := tbt_2 (List.mem_of_getElem? (i := 41) rfl) rfl
theorem q178 : (.methodLink RL 119 yX7_clearBuffer : Cond) ∈ TBG := tbt_2 (List.mem_of_getElem? (i := 42) rfl) rfl
theorem q179 : (.instanceMethod yX7_clearBuffer : Cond) ∈ TBG := tbt_2 (List.mem_of_getElem? (i := 43) rfl) rfl
theorem q180 : (.selects RX7 yX7_clearBuffer yX7_clearBuffer : Cond) ∈ TBG := tbt_2 (List.mem_of_getElem? (i := 44) rfl) rfl
theorem q181 : (.code yX7_clearBuffer cX7_clearBuffer 2 (some .int) : Cond) ∈ TBG := tbt_2 (List.mem_of_getElem? (i := 45) rfl) rfl
theorem q182 : (.methodLink RX7 189 yX6_clear : Cond) ∈ TBG := tbt_2 (List.mem_of_getElem? (i := 46) rfl) rfl
theorem q183 : (.instanceMethod yX6_clear : Cond) ∈ TBG := tbt_2 (List.mem_of_getElem? (i := 47) rfl) rfl
theorem q184 : (.selects RX6 yX6_clear yX6_clear : Cond) ∈ TBG := tbt_2 (List.mem_of_getElem? (i := 48) rfl) rfl
theorem q185 : (.code yX6_clear cX6_clear 1 none : Cond) ∈ TBG := tbt_2 (List.mem_of_getElem? (i := 49) rfl) rfl
theorem q186 : (.methodLink RL 123 yX7_firstError : Cond) ∈ TBG := tbt_2 (List.mem_of_getElem? (i := 50) rfl) rfl
theorem q187 : (.instanceMethod yX7_firstError : Cond) ∈ TBG := tbt_2 (List.mem_of_getElem? (i := 51) rfl) rfl
theorem q188 : (.selects RX7 yX7_firstError yX7_firstError : Cond) ∈ TBG := tbt_2 (List.mem_of_getElem? (i := 52) rfl) rfl
theorem q189 : (.code yX7_firstError cX7_firstError 1 (some .int) : Cond) ∈ TBG := tbt_2 (List.mem_of_getElem? (i := 53) rfl) rfl
theorem q190 : (.methodLink RX7 192 yX6_readToError : Cond) ∈ TBG := tbt_2 (List.mem_of_getElem? (i := 54) rfl) rfl
theorem q191 : (.instanceMethod yX6_readToError : Cond) ∈ TBG := tbt_2 (List.mem_of_getElem? (i := 55) rfl) rfl
theorem q192 : (.selects RX6 yX6_readToError yX6_readToError : Cond) ∈ TBG := tbt_2 (List.mem_of_getElem? (i := 56) rfl) rfl
theorem q193 : (.code yX6_readToError cX6_readToError 2 (some .int) : Cond) ∈ TBG := tbt_2 (List.mem_of_getElem? (i := 57) rfl) rfl
theorem q194 : (.methodLink RX6 45 yX6_codeAt : Cond) ∈ TBG := tbt_2 (List.mem_of_getElem? (i := 58) rfl) rfl
theorem q195 : (.instanceMethod yX6_codeAt : Cond) ∈ TBG := tbt_2 (List.mem_of_getElem? (i := 59) rfl) rfl
theorem q196 : (.selects RX6 yX6_codeAt yX6_codeAt : Cond) ∈ TBG := tbt_2 (List.mem_of_getElem? (i := 60) rfl) rfl
theorem q197 : (.code yX6_codeAt cX6_codeAt 2 (some .int) : Cond) ∈ TBG := tbt_2 (List.mem_of_getElem? (i := 61) rfl) rfl
theorem q198 : (.methodLinkNest RX6 41 yX7_numberIn RX7 : Cond) ∈ lw_tbl := tbl_2 (List.mem_of_getElem? (i := 62) rfl)
theorem q199 : (.static yX7_numberIn : Cond) ∈ TBG := tbt_2 (List.mem_of_getElem? (i := 63) rfl) rfl
theorem q200 : (.code yX7_numberIn cX7_numberIn 2 (some .int) : Cond) ∈ TBG := tbt_2 (List.mem_of_getElem? (i := 64) rfl) rfl
theorem q201 : (.methodLink RX6 49 yX6_takes : Cond) ∈ TBG := tbt_2 (List.mem_of_getElem? (i := 65) rfl) rfl
theorem q202 : (.instanceMethod yX6_takes : Cond) ∈ TBG := tbt_2 (List.mem_of_getElem? (i := 67) rfl) rfl
theorem q203 : (.code yX6_takes cX6_takes 2 (some .boolean) : Cond) ∈ TBG := tbt_2 (List.mem_of_getElem? (i := 68) rfl) rfl
theorem q204 : (.methodLinkNest RX6 61 yX7_isFromTo RX7 : Cond) ∈ lw_tbl := tbl_2 (List.mem_of_getElem? (i := 69) rfl)
theorem q205 : (.static yX7_isFromTo : Cond) ∈ TBG := tbt_2 (List.mem_of_getElem? (i := 70) rfl) rfl
theorem q206 : (.code yX7_isFromTo cX7_isFromTo 3 (some .boolean) : Cond) ∈ TBG := tbt_2 (List.mem_of_getElem? (i := 71) rfl) rfl
theorem q207 : (.methodLink RX6 65 yX6_takesDigit : Cond) ∈ TBG := tbt_2 (List.mem_of_getElem? (i := 72) rfl) rfl
theorem q208 : (.instanceMethod yX6_takesDigit : Cond) ∈ TBG := tbt_2 (List.mem_of_getElem? (i := 74) rfl) rfl
theorem q209 : (.code yX6_takesDigit cX6_takesDigit 3 (some .boolean) : Cond) ∈ TBG := tbt_2 (List.mem_of_getElem? (i := 75) rfl) rfl
theorem q210 : (.methodLinkNest RX6 37 yX7_setIn RX7 : Cond) ∈ lw_tbl := tbl_2 (List.mem_of_getElem? (i := 76) rfl)
theorem q211 : (.methodLink RX6 68 yX6_takesComma : Cond) ∈ TBG := tbt_2 (List.mem_of_getElem? (i := 77) rfl) rfl
theorem q212 : (.instanceMethod yX6_takesComma : Cond) ∈ TBG := tbt_2 (List.mem_of_getElem? (i := 79) rfl) rfl
theorem q213 : (.code yX6_takesComma cX6_takesComma 1 (some .boolean) : Cond) ∈ TBG := tbt_2 (List.mem_of_getElem? (i := 80) rfl) rfl
theorem q214 : (.methodLink RX6 71 yX6_takesSlash : Cond) ∈ TBG := tbt_2 (List.mem_of_getElem? (i := 81) rfl) rfl
theorem q215 : (.instanceMethod yX6_takesSlash : Cond) ∈ TBG := tbt_2 (List.mem_of_getElem? (i := 83) rfl) rfl
theorem q216 : (.code yX6_takesSlash cX6_takesSlash 1 (some .boolean) : Cond) ∈ TBG := tbt_2 (List.mem_of_getElem? (i := 84) rfl) rfl
theorem q217 : (.methodLink RX6 57 yX6_isRowFull : Cond) ∈ TBG := tbt_2 (List.mem_of_getElem? (i := 85) rfl) rfl
theorem q218 : (.instanceMethod yX6_isRowFull : Cond) ∈ TBG := tbt_2 (List.mem_of_getElem? (i := 87) rfl) rfl
theorem q219 : (.code yX6_isRowFull cX6_isRowFull 1 (some .boolean) : Cond) ∈ TBG := tbt_2 (List.mem_of_getElem? (i := 88) rfl) rfl
theorem q220 : (.methodLink RL 148 yX7_bound : Cond) ∈ TBG := tbt_2 (List.mem_of_getElem? (i := 89) rfl) rfl
theorem q221 : (.instanceMethod yX7_bound : Cond) ∈ TBG := tbt_2 (List.mem_of_getElem? (i := 90) rfl) rfl
theorem q222 : (.selects RX7 yX7_bound yX7_bound : Cond) ∈ TBG := tbt_2 (List.mem_of_getElem? (i := 91) rfl) rfl
theorem q223 : (.code yX7_bound cX7_bound 3 (some .int) : Cond) ∈ TBG := tbt_2 (List.mem_of_getElem? (i := 92) rfl) rfl
theorem q224 : (.methodLink RL 170 yX7_halfShare : Cond) ∈ TBG := tbt_2 (List.mem_of_getElem? (i := 93) rfl) rfl
theorem q225 : (.instanceMethod yX7_halfShare : Cond) ∈ TBG := tbt_2 (List.mem_of_getElem? (i := 94) rfl) rfl
theorem q226 : (.selects RX7 yX7_halfShare yX7_halfShare : Cond) ∈ TBG := tbt_2 (List.mem_of_getElem? (i := 95) rfl) rfl
theorem q227 : (.code yX7_halfShare cX7_halfShare 1 (some .double) : Cond) ∈ TBG := tbt_2 (List.mem_of_getElem? (i := 96) rfl) rfl
theorem q228 : (.methodLink RX7 114 yX3_isKept : Cond) ∈ TBG := tbt_2 (List.mem_of_getElem? (i := 97) rfl) rfl
theorem q229 : (.instanceMethod yX3_isKept : Cond) ∈ TBG := tbt_2 (List.mem_of_getElem? (i := 98) rfl) rfl
theorem q230 : (.selects RX3 yX3_isKept yX3_isKept : Cond) ∈ TBG := tbt_2 (List.mem_of_getElem? (i := 99) rfl) rfl
theorem q231 : (.code yX3_isKept cX3_isKept 1 (some .boolean) : Cond) ∈ TBG := tbt_2 (List.mem_of_getElem? (i := 100) rfl) rfl
theorem q232 : (.methodLink RX3 28 yX3_examine : Cond) ∈ TBG := tbt_2 (List.mem_of_getElem? (i := 101) rfl) rfl
theorem q233 : (.methodLink RX7 150 yX1_seek : Cond) ∈ TBG := tbt_2 (List.mem_of_getElem? (i := 102) rfl) rfl
theorem q234 : (.instanceMethod yX1_seek : Cond) ∈ TBG := tbt_2 (List.mem_of_getElem? (i := 103) rfl) rfl
theorem q235 : (.selects RX1 yX1_seek yX1_seek : Cond) ∈ TBG := tbt_2 (List.mem_of_getElem? (i := 104) rfl) rfl
theorem q236 : (.code yX1_seek cX1_seek 3 none : Cond) ∈ TBG := tbt_2 (List.mem_of_getElem? (i := 105) rfl) rfl
theorem q237 : (.methodLink RX1 35 yX1_leaveAllColumns : Cond) ∈ TBG := tbt_2 (List.mem_of_getElem? (i := 106) rfl) rfl
theorem q238 : (.instanceMethod yX1_leaveAllColumns : Cond) ∈ TBG := tbt_2 (List.mem_of_getElem? (i := 108) rfl) rfl
theorem q239 : (.code yX1_leaveAllColumns cX1_leaveAllColumns 2 none : Cond) ∈ TBG := tbt_2 (List.mem_of_getElem? (i := 109) rfl) rfl
theorem q240 : (.methodLinkNest RX1 60 yX7_setIn RX7 : Cond) ∈ lw_tbl := tbl_2 (List.mem_of_getElem? (i := 110) rfl)
theorem q241 : (.methodLink RX1 46 yX1_halve : Cond) ∈ TBG := tbt_2 (List.mem_of_getElem? (i := 111) rfl) rfl
theorem q242 : (.static yX1_halve : Cond) ∈ TBG := tbt_2 (List.mem_of_getElem? (i := 112) rfl) rfl
theorem q243 : (.code yX1_halve cX1_halve 8 none : Cond) ∈ TBG := tbt_2 (List.mem_of_getElem? (i := 113) rfl) rfl
theorem q244 : (.methodLink RX1 76 yX1_leftmostLeast : Cond) ∈ TBG := tbt_2 (List.mem_of_getElem? (i := 114) rfl) rfl
theorem q245 : (.instanceMethod yX1_leftmostLeast : Cond) ∈ TBG := tbt_2 (List.mem_of_getElem? (i := 116) rfl) rfl
theorem q246 : (.code yX1_leftmostLeast cX1_leftmostLeast 11 (some .int) : Cond) ∈ TBG := tbt_2 (List.mem_of_getElem? (i := 117) rfl) rfl
theorem q247 : (.methodLinkNest RX1 64 yX7_numberIn RX7 : Cond) ∈ lw_tbl := tbl_2 (List.mem_of_getElem? (i := 118) rfl)
theorem q248 : (.methodLink RX1 87 yX1_columnLeft : Cond) ∈ TBG := tbt_2 (List.mem_of_getElem? (i := 119) rfl) rfl
theorem q249 : (.instanceMethod yX1_columnLeft : Cond) ∈ TBG := tbt_2 (List.mem_of_getElem? (i := 121) rfl) rfl
theorem q250 : (.code yX1_columnLeft cX1_columnLeft 3 (some .int) : Cond) ∈ TBG := tbt_2 (List.mem_of_getElem? (i := 122) rfl) rfl
theorem q251 : (.methodLinkNest RX1 100 yX7_isFromTo RX7 : Cond) ∈ lw_tbl := tbl_2 (List.mem_of_getElem? (i := 123) rfl)
theorem q252 : (.methodLink RX1 97 yX1_look : Cond) ∈ TBG := tbt_2 (List.mem_of_getElem? (i := 124) rfl) rfl
theorem q253 : (.instanceMethod yX1_look : Cond) ∈ TBG := tbt_2 (List.mem_of_getElem? (i := 126) rfl) rfl
theorem q254 : (.code yX1_look cX1_look 3 (some .int) : Cond) ∈ TBG := tbt_2 (List.mem_of_getElem? (i := 127) rfl) rfl
theorem q255 : (.methodLink RX1 104 yX5_numberAt : Cond) ∈ TBG := tbt_2 (List.mem_of_getElem? (i := 128) rfl) rfl
theorem q256 : (.methodLink RX1 80 yX1_setPlace : Cond) ∈ TBG := tbt_2 (List.mem_of_getElem? (i := 129) rfl) rfl
theorem q257 : (.instanceMethod yX1_setPlace : Cond) ∈ TBG := tbt_2 (List.mem_of_getElem? (i := 131) rfl) rfl
theorem q258 : (.code yX1_setPlace cX1_setPlace 3 none : Cond) ∈ TBG := tbt_2 (List.mem_of_getElem? (i := 132) rfl) rfl
theorem q259 : (.methodLink RX1 50 yX1_pileColumns : Cond) ∈ TBG := tbt_2 (List.mem_of_getElem? (i := 133) rfl) rfl
theorem q260 : (.instanceMethod yX1_pileColumns : Cond) ∈ TBG := tbt_2 (List.mem_of_getElem? (i := 135) rfl) rfl
theorem q261 : (.code yX1_pileColumns cX1_pileColumns 7 none : Cond) ∈ TBG := tbt_2 (List.mem_of_getElem? (i := 136) rfl) rfl
theorem q262 : (.methodLink RX1 84 yX1_rowsAt : Cond) ∈ TBG := tbt_2 (List.mem_of_getElem? (i := 137) rfl) rfl
theorem q263 : (.instanceMethod yX1_rowsAt : Cond) ∈ TBG := tbt_2 (List.mem_of_getElem? (i := 139) rfl) rfl
theorem q264 : (.code yX1_rowsAt cX1_rowsAt 2 (some .int) : Cond) ∈ TBG := tbt_2 (List.mem_of_getElem? (i := 140) rfl) rfl
theorem q265 : (.methodLink RX1 90 yX1_heightAfterThrowing : Cond) ∈ TBG := tbt_2 (List.mem_of_getElem? (i := 141) rfl) rfl
theorem q266 : (.instanceMethod yX1_heightAfterThrowing : Cond) ∈ TBG := tbt_2 (List.mem_of_getElem? (i := 143) rfl) rfl
theorem q267 : (.code yX1_heightAfterThrowing cX1_heightAfterThrowing 8 (some .int) : Cond) ∈ TBG := tbt_2 (List.mem_of_getElem? (i := 144) rfl) rfl
theorem q268 : (.methodLink RX1 94 yX1_rowAt : Cond) ∈ TBG := tbt_2 (List.mem_of_getElem? (i := 145) rfl) rfl
theorem q269 : (.instanceMethod yX1_rowAt : Cond) ∈ TBG := tbt_2 (List.mem_of_getElem? (i := 147) rfl) rfl
theorem q270 : (.code yX1_rowAt cX1_rowAt 3 (some .int) : Cond) ∈ TBG := tbt_2 (List.mem_of_getElem? (i := 148) rfl) rfl
theorem q271 : (.methodLink RX1 54 yX1_fillBetween : Cond) ∈ TBG := tbt_2 (List.mem_of_getElem? (i := 149) rfl) rfl
theorem q272 : (.instanceMethod yX1_fillBetween : Cond) ∈ TBG := tbt_2 (List.mem_of_getElem? (i := 151) rfl) rfl
theorem q273 : (.code yX1_fillBetween cX1_fillBetween 7 none : Cond) ∈ TBG := tbt_2 (List.mem_of_getElem? (i := 152) rfl) rfl
theorem q274 : (.methodLink RX1 68 yX1_placeBy : Cond) ∈ TBG := tbt_2 (List.mem_of_getElem? (i := 153) rfl) rfl
theorem q275 : (.instanceMethod yX1_placeBy : Cond) ∈ TBG := tbt_2 (List.mem_of_getElem? (i := 154) rfl) rfl
theorem q276 : (.selects RX1 yX1_placeBy yX1_placeBy : Cond) ∈ TBG := tbt_2 (List.mem_of_getElem? (i := 155) rfl) rfl
theorem q277 : (.code yX1_placeBy cX1_placeBy 3 (some .int) : Cond) ∈ TBG := tbt_2 (List.mem_of_getElem? (i := 156) rfl) rfl
theorem q278 : (.methodLink RX1 57 yX1_lookAtAll : Cond) ∈ TBG := tbt_2 (List.mem_of_getElem? (i := 157) rfl) rfl
theorem q279 : (.instanceMethod yX1_lookAtAll : Cond) ∈ TBG := tbt_2 (List.mem_of_getElem? (i := 159) rfl) rfl
theorem q280 : (.code yX1_lookAtAll cX1_lookAtAll 2 none : Cond) ∈ TBG := tbt_2 (List.mem_of_getElem? (i := 160) rfl) rfl
theorem q281 : (.methodLink RX7 281 yX1_shareOfHalves : Cond) ∈ TBG := tbt_2 (List.mem_of_getElem? (i := 161) rfl) rfl
theorem q282 : (.instanceMethod yX1_shareOfHalves : Cond) ∈ TBG := tbt_2 (List.mem_of_getElem? (i := 162) rfl) rfl
theorem q283 : (.selects RX1 yX1_shareOfHalves yX1_shareOfHalves : Cond) ∈ TBG := tbt_2 (List.mem_of_getElem? (i := 163) rfl) rfl
theorem q284 : (.code yX1_shareOfHalves cX1_shareOfHalves 2 (some .double) : Cond) ∈ TBG := tbt_2 (List.mem_of_getElem? (i := 164) rfl) rfl
theorem q285 : (.methodLink RX1 72 yX1_looksBy : Cond) ∈ TBG := tbt_2 (List.mem_of_getElem? (i := 165) rfl) rfl
theorem q286 : (.instanceMethod yX1_looksBy : Cond) ∈ TBG := tbt_2 (List.mem_of_getElem? (i := 166) rfl) rfl
theorem q287 : (.selects RX1 yX1_looksBy yX1_looksBy : Cond) ∈ TBG := tbt_2 (List.mem_of_getElem? (i := 167) rfl) rfl
theorem q288 : (.code yX1_looksBy cX1_looksBy 2 (some .int) : Cond) ∈ TBG := tbt_2 (List.mem_of_getElem? (i := 168) rfl) rfl
theorem q289 : (.methodLink RL 175 yX7_digest : Cond) ∈ TBG := tbt_2 (List.mem_of_getElem? (i := 169) rfl) rfl
theorem q290 : (.instanceMethod yX7_digest : Cond) ∈ TBG := tbt_2 (List.mem_of_getElem? (i := 170) rfl) rfl
theorem q291 : (.selects RX7 yX7_digest yX7_digest : Cond) ∈ TBG := tbt_2 (List.mem_of_getElem? (i := 171) rfl) rfl
theorem q292 : (.code yX7_digest cX7_digest 4 (some .long) : Cond) ∈ TBG := tbt_2 (List.mem_of_getElem? (i := 172) rfl) rfl
theorem q293 : (.constantLong RX7 285 (3613) : Cond) ∈ TBG := tbt_2 (List.mem_of_getElem? (i := 173) rfl) rfl
theorem q294 : (.methodLink RX7 251 yX7_counted : Cond) ∈ TBG := tbt_2 (List.mem_of_getElem? (i := 174) rfl) rfl
theorem q295 : (.instanceMethod yX7_counted : Cond) ∈ TBG := tbt_2 (List.mem_of_getElem? (i := 176) rfl) rfl
theorem q296 : (.code yX7_counted cX7_counted 2 (some .int) : Cond) ∈ TBG := tbt_2 (List.mem_of_getElem? (i := 177) rfl) rfl
theorem q297 : (.methodLink RX7 314 yX5_weightsTogether : Cond) ∈ TBG := tbt_2 (List.mem_of_getElem? (i := 178) rfl) rfl
theorem q298 : (.instanceMethod yX5_weightsTogether : Cond) ∈ TBG := tbt_2 (List.mem_of_getElem? (i := 179) rfl) rfl
theorem q299 : (.selects RX5 yX5_weightsTogether yX5_weightsTogether : Cond) ∈ TBG := tbt_2 (List.mem_of_getElem? (i := 180) rfl) rfl
theorem q300 : (.code yX5_weightsTogether cX5_weightsTogether 3 (some .int) : Cond) ∈ TBG := tbt_2 (List.mem_of_getElem? (i := 181) rfl) rfl
theorem q301 : (.methodLink RX5 49 yX5_weightAt : Cond) ∈ TBG := tbt_2 (List.mem_of_getElem? (i := 182) rfl) rfl
theorem q302 : (.instanceMethod yX5_weightAt : Cond) ∈ TBG := tbt_2 (List.mem_of_getElem? (i := 183) rfl) rfl
theorem q303 : (.selects RX5 yX5_weightAt yX5_weightAt : Cond) ∈ TBG := tbt_2 (List.mem_of_getElem? (i := 184) rfl) rfl
theorem q304 : (.code yX5_weightAt cX5_weightAt 2 (some .int) : Cond) ∈ TBG := tbt_2 (List.mem_of_getElem? (i := 185) rfl) rfl
theorem q305 : (.methodLinkNest RX5 45 yX7_numberIn RX7 : Cond) ∈ lw_tbl := tbl_2 (List.mem_of_getElem? (i := 186) rfl)
theorem q306 : (.methodLink RX7 317 yX1_placesGoneBack : Cond) ∈ TBG := tbt_2 (List.mem_of_getElem? (i := 187) rfl) rfl
theorem q307 : (.instanceMethod yX1_placesGoneBack : Cond) ∈ TBG := tbt_2 (List.mem_of_getElem? (i := 188) rfl) rfl
theorem q308 : (.selects RX1 yX1_placesGoneBack yX1_placesGoneBack : Cond) ∈ TBG := tbt_2 (List.mem_of_getElem? (i := 189) rfl) rfl
theorem q309 : (.code yX1_placesGoneBack cX1_placesGoneBack 3 (some .int) : Cond) ∈ TBG := tbt_2 (List.mem_of_getElem? (i := 190) rfl) rfl
theorem q310 : (.methodLink RX7 287 yX7_mixed : Cond) ∈ TBG := tbt_2 (List.mem_of_getElem? (i := 191) rfl) rfl
theorem q311 : (.static yX7_mixed : Cond) ∈ TBG := tbt_2 (List.mem_of_getElem? (i := 192) rfl) rfl
theorem q312 : (.code yX7_mixed cX7_mixed 4 (some .long) : Cond) ∈ TBG := tbt_2 (List.mem_of_getElem? (i := 193) rfl) rfl
theorem q313 : (.constantLong RX7 320 (31) : Cond) ∈ TBG := tbt_2 (List.mem_of_getElem? (i := 194) rfl) rfl
theorem q314 : (.methodLink RX7 291 yX7_mixedCells : Cond) ∈ TBG := tbt_2 (List.mem_of_getElem? (i := 195) rfl) rfl
theorem q315 : (.instanceMethod yX7_mixedCells : Cond) ∈ TBG := tbt_2 (List.mem_of_getElem? (i := 197) rfl) rfl
theorem q316 : (.code yX7_mixedCells cX7_mixedCells 7 (some .long) : Cond) ∈ TBG := tbt_2 (List.mem_of_getElem? (i := 198) rfl) rfl
theorem q317 : (.methodLink RX7 295 yX7_seekByAllWays : Cond) ∈ TBG := tbt_2 (List.mem_of_getElem? (i := 199) rfl) rfl
theorem q318 : (.instanceMethod yX7_seekByAllWays : Cond) ∈ TBG := tbt_2 (List.mem_of_getElem? (i := 201) rfl) rfl
theorem q319 : (.code yX7_seekByAllWays cX7_seekByAllWays 2 none : Cond) ∈ TBG := tbt_2 (List.mem_of_getElem? (i := 202) rfl) rfl
theorem q320 : (.methodLink RX7 322 yX1_tellNothing : Cond) ∈ TBG := tbt_2 (List.mem_of_getElem? (i := 203) rfl) rfl
theorem q321 : (.instanceMethod yX1_tellNothing : Cond) ∈ TBG := tbt_2 (List.mem_of_getElem? (i := 204) rfl) rfl
theorem q322 : (.selects RX1 yX1_tellNothing yX1_tellNothing : Cond) ∈ TBG := tbt_2 (List.mem_of_getElem? (i := 205) rfl) rfl
theorem q323 : (.code yX1_tellNothing cX1_tellNothing 3 none : Cond) ∈ TBG := tbt_2 (List.mem_of_getElem? (i := 206) rfl) rfl
theorem q324 : (.methodLink RX7 298 yX7_mixedPlaces : Cond) ∈ TBG := tbt_2 (List.mem_of_getElem? (i := 207) rfl) rfl
theorem q325 : (.instanceMethod yX7_mixedPlaces : Cond) ∈ TBG := tbt_2 (List.mem_of_getElem? (i := 209) rfl) rfl
theorem q326 : (.code yX7_mixedPlaces cX7_mixedPlaces 7 (some .long) : Cond) ∈ TBG := tbt_2 (List.mem_of_getElem? (i := 210) rfl) rfl
theorem q327 : (.methodLink RX7 241 yX1_placeBy : Cond) ∈ TBG := tbt_2 (List.mem_of_getElem? (i := 211) rfl) rfl
theorem q328 : (.methodLink RX7 154 yX1_looksBy : Cond) ∈ TBG := tbt_2 (List.mem_of_getElem? (i := 212) rfl) rfl
theorem q329 : (.methodLink RX7 325 yX7_bound : Cond) ∈ TBG := tbt_2 (List.mem_of_getElem? (i := 213) rfl) rfl
theorem q330 : (.methodLink RX7 246 yX3_told : Cond) ∈ TBG := tbt_2 (List.mem_of_getElem? (i := 214) rfl) rfl
theorem q331 : (.instanceMethod yX3_told : Cond) ∈ TBG := tbt_2 (List.mem_of_getElem? (i := 215) rfl) rfl
theorem q332 : (.selects RX3 yX3_told yX3_told : Cond) ∈ TBG := tbt_2 (List.mem_of_getElem? (i := 216) rfl) rfl
theorem q333 : (.code yX3_told cX3_told 2 (some .int) : Cond) ∈ TBG := tbt_2 (List.mem_of_getElem? (i := 217) rfl) rfl
theorem q334 : (.methodLink RX7 301 yX7_mixedWeights : Cond) ∈ TBG := tbt_2 (List.mem_of_getElem? (i := 218) rfl) rfl
theorem q335 : (.instanceMethod yX7_mixedWeights : Cond) ∈ TBG := tbt_2 (List.mem_of_getElem? (i := 220) rfl) rfl
theorem q336 : (.code yX7_mixedWeights cX7_mixedWeights 7 (some .long) : Cond) ∈ TBG := tbt_2 (List.mem_of_getElem? (i := 221) rfl) rfl
theorem q337 : (.methodLink RX7 176 yX5_weightAt : Cond) ∈ TBG := tbt_2 (List.mem_of_getElem? (i := 222) rfl) rfl
theorem q338 : (.methodLink RX7 258 yX0_planCuts : Cond) ∈ TBG := tbt_2 (List.mem_of_getElem? (i := 223) rfl) rfl
theorem q339 : (.instanceMethod yX0_planCuts : Cond) ∈ TBG := tbt_2 (List.mem_of_getElem? (i := 224) rfl) rfl
theorem q340 : (.selects RX0 yX0_planCuts yX0_planCuts : Cond) ∈ TBG := tbt_2 (List.mem_of_getElem? (i := 225) rfl) rfl
theorem q341 : (.code yX0_planCuts cX0_planCuts 4 none : Cond) ∈ TBG := tbt_2 (List.mem_of_getElem? (i := 226) rfl) rfl
theorem q342 : (.methodLink RX0 34 yX5_weightAt : Cond) ∈ TBG := tbt_2 (List.mem_of_getElem? (i := 227) rfl) rfl
theorem q343 : (.methodLinkNest RX0 38 yX7_setIn RX7 : Cond) ∈ lw_tbl := tbl_2 (List.mem_of_getElem? (i := 228) rfl)
theorem q344 : (.methodLink RX0 42 yX0_planLastCut : Cond) ∈ TBG := tbt_2 (List.mem_of_getElem? (i := 229) rfl) rfl
theorem q345 : (.instanceMethod yX0_planLastCut : Cond) ∈ TBG := tbt_2 (List.mem_of_getElem? (i := 231) rfl) rfl
theorem q346 : (.code yX0_planLastCut cX0_planLastCut 9 none : Cond) ∈ TBG := tbt_2 (List.mem_of_getElem? (i := 232) rfl) rfl
theorem q347 : (.constant RX0 53 (1000000000) : Cond) ∈ TBG := tbt_2 (List.mem_of_getElem? (i := 233) rfl) rfl
theorem q348 : (.methodLinkNest RX0 46 yX7_numberIn RX7 : Cond) ∈ lw_tbl := tbl_2 (List.mem_of_getElem? (i := 234) rfl)
theorem q349 : (.methodLink RX7 264 yX0_tryAllCuts : Cond) ∈ TBG := tbt_2 (List.mem_of_getElem? (i := 235) rfl) rfl
theorem q350 : (.instanceMethod yX0_tryAllCuts : Cond) ∈ TBG := tbt_2 (List.mem_of_getElem? (i := 236) rfl) rfl
theorem q351 : (.selects RX0 yX0_tryAllCuts yX0_tryAllCuts : Cond) ∈ TBG := tbt_2 (List.mem_of_getElem? (i := 237) rfl) rfl
theorem q352 : (.code yX0_tryAllCuts cX0_tryAllCuts 2 none : Cond) ∈ TBG := tbt_2 (List.mem_of_getElem? (i := 238) rfl) rfl
theorem q353 : (.methodLink RX0 54 yX0_tryNextPart : Cond) ∈ TBG := tbt_2 (List.mem_of_getElem? (i := 239) rfl) rfl
theorem q354 : (.static yX0_tryNextPart : Cond) ∈ TBG := tbt_3 (List.mem_of_getElem? (i := 0) rfl) rfl
theorem q355 : (.code yX0_tryNextPart cX0_tryNextPart 7 none : Cond) ∈ TBG := tbt_3 (List.mem_of_getElem? (i := 1) rfl) rfl
theorem q356 : (.methodLink RX0 58 yX0_triedCost : Cond) ∈ TBG := tbt_3 (List.mem_of_getElem? (i := 2) rfl) rfl
theorem q357 : (.instanceMethod yX0_triedCost : Cond) ∈ TBG := tbt_3 (List.mem_of_getElem? (i := 3) rfl) rfl
theorem q358 : (.selects RX0 yX0_triedCost yX0_triedCost : Cond) ∈ TBG := tbt_3 (List.mem_of_getElem? (i := 4) rfl) rfl
theorem q359 : (.code yX0_triedCost cX0_triedCost 2 (some .int) : Cond) ∈ TBG := tbt_3 (List.mem_of_getElem? (i := 5) rfl) rfl
theorem q360 : (.methodLink RX0 61 yJ9_min_7cf53 : Cond) ∈ TBG := tbt_3 (List.mem_of_getElem? (i := 6) rfl) rfl
theorem q361 : (.static yJ9_min_7cf53 : Cond) ∈ TBG := tbt_3 (List.mem_of_getElem? (i := 7) rfl) rfl
theorem q362 : (.code yJ9_min_7cf53 cJ9_min_7cf53 2 (some .int) : Cond) ∈ TBG := tbt_3 (List.mem_of_getElem? (i := 8) rfl) rfl
theorem q363 : (.methodLink RX7 261 yX0_plannedCost : Cond) ∈ TBG := tbt_3 (List.mem_of_getElem? (i := 9) rfl) rfl
theorem q364 : (.instanceMethod yX0_plannedCost : Cond) ∈ TBG := tbt_3 (List.mem_of_getElem? (i := 10) rfl) rfl
theorem q365 : (.selects RX0 yX0_plannedCost yX0_plannedCost : Cond) ∈ TBG := tbt_3 (List.mem_of_getElem? (i := 11) rfl) rfl
theorem q366 : (.code yX0_plannedCost cX0_plannedCost 2 (some .int) : Cond) ∈ TBG := tbt_3 (List.mem_of_getElem? (i := 12) rfl) rfl
theorem q367 : (.methodLink RX7 267 yX0_triedCost : Cond) ∈ TBG := tbt_3 (List.mem_of_getElem? (i := 13) rfl) rfl
theorem q368 : (.methodLink RX7 272 yX0_plannedCut : Cond) ∈ TBG := tbt_3 (List.mem_of_getElem? (i := 14) rfl) rfl
theorem q369 : (.instanceMethod yX0_plannedCut : Cond) ∈ TBG := tbt_3 (List.mem_of_getElem? (i := 15) rfl) rfl
theorem q370 : (.selects RX0 yX0_plannedCut yX0_plannedCut : Cond) ∈ TBG := tbt_3 (List.mem_of_getElem? (i := 16) rfl) rfl
theorem q371 : (.code yX0_plannedCut cX0_plannedCut 5 (some .int) : Cond) ∈ TBG := tbt_3 (List.mem_of_getElem? (i := 17) rfl) rfl
theorem q372 : (.methodLink RX7 278 yX0_fewestPartsFor : Cond) ∈ TBG := tbt_3 (List.mem_of_getElem? (i := 18) rfl) rfl
theorem q373 : (.instanceMethod yX0_fewestPartsFor : Cond) ∈ TBG := tbt_3 (List.mem_of_getElem? (i := 19) rfl) rfl
theorem q374 : (.selects RX0 yX0_fewestPartsFor yX0_fewestPartsFor : Cond) ∈ TBG := tbt_3 (List.mem_of_getElem? (i := 20) rfl) rfl
theorem q375 : (.code yX0_fewestPartsFor cX0_fewestPartsFor 3 (some .int) : Cond) ∈ TBG := tbt_3 (List.mem_of_getElem? (i := 21) rfl) rfl
theorem q376 : (.methodLink RX0 50 yX0_plannedCost : Cond) ∈ TBG := tbt_3 (List.mem_of_getElem? (i := 22) rfl) rfl
theorem q377 : (.methodLink RX7 304 yX7_halfShare : Cond) ∈ TBG := tbt_3 (List.mem_of_getElem? (i := 23) rfl) rfl
theorem q378 : (.methodLink RX7 307 yX7_bitsOf : Cond) ∈ TBG := tbt_3 (List.mem_of_getElem? (i := 24) rfl) rfl
theorem q379 : (.static yX7_bitsOf : Cond) ∈ TBG := tbt_3 (List.mem_of_getElem? (i := 25) rfl) rfl
theorem q380 : (.code yX7_bitsOf cX7_bitsOf 8 (some .long) : Cond) ∈ TBG := tbt_3 (List.mem_of_getElem? (i := 26) rfl) rfl
theorem q381 : (.constantLong RX7 328 (1023) : Cond) ∈ TBG := tbt_3 (List.mem_of_getElem? (i := 27) rfl) rfl
theorem q382 : (.constantDouble RX7 330 (4611686018427387904) : Cond) ∈ TBG := tbt_3 (List.mem_of_getElem? (i := 28) rfl) rfl
theorem q383 : (.constantDouble RX7 332 (4841369599423283200) : Cond) ∈ TBG := tbt_3 (List.mem_of_getElem? (i := 29) rfl) rfl
theorem q384 : (.methodLink RX7 311 yX6_codeAt : Cond) ∈ TBG := tbt_3 (List.mem_of_getElem? (i := 30) rfl) rfl
theorem q385 : (.methodLink RL 84 yL_size : Cond) ∈ TBG := tbt_3 (List.mem_of_getElem? (i := 31) rfl) rfl
theorem q386 : (.static yL_size : Cond) ∈ TBG := tbt_3 (List.mem_of_getElem? (i := 32) rfl) rfl
theorem q387 : (.codeWith yL_size cL_size 5 (some .int) [((0), (10), (13), (13))] : Cond) ∈ TBG := tbt_3 (List.mem_of_getElem? (i := 33) rfl) rfl
theorem q388 : (.classLink RL 13 "java/lang/IllegalArgumentException" : Cond) ∈ TBG := tbt_3 (List.mem_of_getElem? (i := 34) rfl) rfl
theorem q389 : (.methodLink RL 7 yX7_size : Cond) ∈ TBG := tbt_3 (List.mem_of_getElem? (i := 35) rfl) rfl
theorem q390 : (.instanceMethod yX7_size : Cond) ∈ TBG := tbt_3 (List.mem_of_getElem? (i := 36) rfl) rfl
theorem q391 : (.selects RX7 yX7_size yX7_size : Cond) ∈ TBG := tbt_3 (List.mem_of_getElem? (i := 37) rfl) rfl
theorem q392 : (.code yX7_size cX7_size 4 (some .int) : Cond) ∈ TBG := tbt_3 (List.mem_of_getElem? (i := 38) rfl) rfl
theorem q393 : (.methodLink RX7 63 yX7_isFromTo : Cond) ∈ TBG := tbt_3 (List.mem_of_getElem? (i := 39) rfl) rfl
theorem q394 : (.classLink RX7 67 "java/lang/IllegalArgumentException" : Cond) ∈ TBG := tbt_3 (List.mem_of_getElem? (i := 40) rfl) rfl
theorem q395 : (.instantiable "java/lang/IllegalArgumentException" 6 : Cond) ∈ TBG := tbt_3 (List.mem_of_getElem? (i := 41) rfl) rfl
theorem q396 : (.castable "java/lang/IllegalArgumentException" "java/lang/IllegalArgumentException" : Cond) ∈ lw_tbl := tbl_3 (List.mem_of_getElem? (i := 42) rfl)
theorem q397 : (.selects "java/lang/IllegalArgumentException" (⟨"java/lang/Throwable", "fillInStackTrace", "(I)Ljava/lang/Throwable;"⟩ : MethodName) (⟨"java/lang/Throwable", "fillInStackTrace", "(I)Ljava/lang/Throwable;"⟩ : MethodName) : Cond) ∈ TBG := tbt_3 (List.mem_of_getElem? (i := 49) rfl) rfl
theorem q398 : (.selects "java/lang/IllegalArgumentException" (⟨"java/lang/Throwable", "fillInStackTrace", "()Ljava/lang/Throwable;"⟩ : MethodName) (⟨"java/lang/Throwable", "fillInStackTrace", "()Ljava/lang/Throwable;"⟩ : MethodName) : Cond) ∈ TBG := tbt_3 (List.mem_of_getElem? (i := 50) rfl) rfl
theorem q399 : (.fieldLink "java/lang/Throwable" 198 "java/lang/Throwable" "backtrace" "Ljava/lang/Object;" : Cond) ∈ TBG := tbt_3 (List.mem_of_getElem? (i := 61) rfl) rfl
theorem q400 : (.instanceMethod (⟨"java/lang/Throwable", "<init>", "()V"⟩ : MethodName) : Cond) ∈ TBG := tbt_3 (List.mem_of_getElem? (i := 63) rfl) rfl
theorem q401 : (.code (⟨"java/lang/Throwable", "<init>", "()V"⟩ : MethodName) prog_19_method_1_code 1 none : Cond) ∈ TBG := tbt_3 (List.mem_of_getElem? (i := 64) rfl) rfl
theorem q402 : (.methodLink "java/lang/Throwable" 1 objectInit : Cond) ∈ TBG := tbt_3 (List.mem_of_getElem? (i := 65) rfl) rfl
theorem q403 : (.fieldLink "java/lang/Throwable" 13 "java/lang/Throwable" "UNASSIGNED_STACK" "[Ljava/lang/StackTraceElement;" : Cond) ∈ TBG := tbt_3 (List.mem_of_getElem? (i := 66) rfl) rfl
theorem q404 : (.fieldLink "java/lang/Throwable" 20 "java/lang/Throwable" "SUPPRESSED_SENTINEL" "Ljava/util/List;" : Cond) ∈ TBG := tbt_3 (List.mem_of_getElem? (i := 68) rfl) rfl
theorem q405 : (.methodLink "java/lang/Throwable" 27 (⟨"java/lang/Throwable", "fillInStackTrace", "()Ljava/lang/Throwable;"⟩ : MethodName) : Cond) ∈ TBG := tbt_3 (List.mem_of_getElem? (i := 70) rfl) rfl
theorem q406 : (.instanceMethod (⟨"java/lang/Throwable", "fillInStackTrace", "()Ljava/lang/Throwable;"⟩ : MethodName) : Cond) ∈ TBG := tbt_3 (List.mem_of_getElem? (i := 71) rfl) rfl
theorem q407 : (.selects "java/lang/IllegalStateException" (⟨"java/lang/Throwable", "fillInStackTrace", "()Ljava/lang/Throwable;"⟩ : MethodName) (⟨"java/lang/Throwable", "fillInStackTrace", "()Ljava/lang/Throwable;"⟩ : MethodName) : Cond) ∈ TBG := tbt_3 (List.mem_of_getElem? (i := 73) rfl) rfl
theorem q408 : (.selects "java/lang/IndexOutOfBoundsException" (⟨"java/lang/Throwable", "fillInStackTrace", "()Ljava/lang/Throwable;"⟩ : MethodName) (⟨"java/lang/Throwable", "fillInStackTrace", "()Ljava/lang/Throwable;"⟩ : MethodName) : Cond) ∈ TBG := tbt_3 (List.mem_of_getElem? (i := 74) rfl) rfl
theorem q409 : (.methodLink "java/lang/Throwable" 202 (⟨"java/lang/Throwable", "fillInStackTrace", "(I)Ljava/lang/Throwable;"⟩ : MethodName) : Cond) ∈ TBG := tbt_3 (List.mem_of_getElem? (i := 76) rfl) rfl
theorem q410 : (.instanceMethod (⟨"java/lang/Throwable", "fillInStackTrace", "(I)Ljava/lang/Throwable;"⟩ : MethodName) : Cond) ∈ TBG := tbt_3 (List.mem_of_getElem? (i := 78) rfl) rfl
theorem q411 : (.instantiable "java/lang/Throwable" 6 : Cond) ∈ TBG := tbt_3 (List.mem_of_getElem? (i := 79) rfl) rfl
theorem q412 : (.methodLink RX7 71 (⟨"java/lang/IllegalArgumentException", "<init>", "(Ljava/lang/String;)V"⟩ : MethodName) : Cond) ∈ TBG := tbt_3 (List.mem_of_getElem? (i := 82) rfl) rfl
theorem q413 : (.instanceMethod (⟨"java/lang/IllegalArgumentException", "<init>", "(Ljava/lang/String;)V"⟩ : MethodName) : Cond) ∈ TBG := tbt_3 (List.mem_of_getElem? (i := 83) rfl) rfl
theorem q414 : (.code (⟨"java/lang/IllegalArgumentException", "<init>", "(Ljava/lang/String;)V"⟩ : MethodName) prog_13_method_2_code 2 none : Cond) ∈ TBG := tbt_3 (List.mem_of_getElem? (i := 84) rfl) rfl
theorem q415 : (.methodLink "java/lang/IllegalArgumentException" 7 (⟨"java/lang/RuntimeException", "<init>", "(Ljava/lang/String;)V"⟩ : MethodName) : Cond) ∈ TBG := tbt_3 (List.mem_of_getElem? (i := 85) rfl) rfl
theorem q416 : (.instanceMethod (⟨"java/lang/RuntimeException", "<init>", "(Ljava/lang/String;)V"⟩ : MethodName) : Cond) ∈ TBG := tbt_3 (List.mem_of_getElem? (i := 86) rfl) rfl
theorem q417 : (.code (⟨"java/lang/RuntimeException", "<init>", "(Ljava/lang/String;)V"⟩ : MethodName) prog_17_method_2_code 2 none : Cond) ∈ TBG := tbt_3 (List.mem_of_getElem? (i := 87) rfl) rfl
theorem q418 : (.methodLink "java/lang/RuntimeException" 7 (⟨"java/lang/Exception", "<init>", "(Ljava/lang/String;)V"⟩ : MethodName) : Cond) ∈ TBG := tbt_3 (List.mem_of_getElem? (i := 88) rfl) rfl
theorem q419 : (.instanceMethod (⟨"java/lang/Exception", "<init>", "(Ljava/lang/String;)V"⟩ : MethodName) : Cond) ∈ TBG := tbt_3 (List.mem_of_getElem? (i := 89) rfl) rfl
theorem q420 : (.code (⟨"java/lang/Exception", "<init>", "(Ljava/lang/String;)V"⟩ : MethodName) prog_12_method_2_code 2 none : Cond) ∈ TBG := tbt_3 (List.mem_of_getElem? (i := 90) rfl) rfl
theorem q421 : (.methodLink "java/lang/Exception" 7 (⟨"java/lang/Throwable", "<init>", "(Ljava/lang/String;)V"⟩ : MethodName) : Cond) ∈ TBG := tbt_3 (List.mem_of_getElem? (i := 91) rfl) rfl
theorem q422 : (.instanceMethod (⟨"java/lang/Throwable", "<init>", "(Ljava/lang/String;)V"⟩ : MethodName) : Cond) ∈ TBG := tbt_3 (List.mem_of_getElem? (i := 92) rfl) rfl
theorem q423 : (.code (⟨"java/lang/Throwable", "<init>", "(Ljava/lang/String;)V"⟩ : MethodName) prog_19_method_2_code 2 none : Cond) ∈ TBG := tbt_3 (List.mem_of_getElem? (i := 93) rfl) rfl
theorem q424 : (.fieldLink "java/lang/Throwable" 198 "java/lang/Throwable" "backtrace" "Ljava/lang/Object;" : Cond) ∈ TBG := tbt_3 (List.mem_of_getElem? (i := 94) rfl) rfl
theorem q425 : (.fieldLink "java/lang/Throwable" 31 "java/lang/Throwable" "detailMessage" "Ljava/lang/String;" : Cond) ∈ TBG := tbt_3 (List.mem_of_getElem? (i := 95) rfl) rfl
theorem q426 : (.fieldLink "java/lang/Throwable" 7 "java/lang/Throwable" "cause" "Ljava/lang/Throwable;" : Cond) ∈ TBG := tbt_3 (List.mem_of_getElem? (i := 96) rfl) rfl
theorem q427 : (.fieldLink "java/lang/Throwable" 17 "java/lang/Throwable" "stackTrace" "[Ljava/lang/StackTraceElement;" : Cond) ∈ TBG := tbt_3 (List.mem_of_getElem? (i := 97) rfl) rfl
theorem q428 : (.fieldLink "java/lang/Throwable" 24 "java/lang/Throwable" "suppressedExceptions" "Ljava/util/List;" : Cond) ∈ TBG := tbt_3 (List.mem_of_getElem? (i := 98) rfl) rfl
theorem q429 : (.arrayClass .byte : Cond) ∈ TBG := tbt_3 (List.mem_of_getElem? (i := 107) rfl) rfl
theorem q430 : (.methodLink RX7 77 yX5_sizeCode : Cond) ∈ TBG := tbt_3 (List.mem_of_getElem? (i := 108) rfl) rfl
theorem q431 : (.instanceMethod yX5_sizeCode : Cond) ∈ TBG := tbt_3 (List.mem_of_getElem? (i := 109) rfl) rfl
theorem q432 : (.selects RX5 yX5_sizeCode yX5_sizeCode : Cond) ∈ TBG := tbt_3 (List.mem_of_getElem? (i := 110) rfl) rfl
theorem q433 : (.code yX5_sizeCode cX5_sizeCode 1 (some .int) : Cond) ∈ TBG := tbt_3 (List.mem_of_getElem? (i := 111) rfl) rfl
theorem q434 : (.methodLink RL 93 yL_put : Cond) ∈ TBG := tbt_3 (List.mem_of_getElem? (i := 112) rfl) rfl
theorem q435 : (.static yL_put : Cond) ∈ TBG := tbt_3 (List.mem_of_getElem? (i := 113) rfl) rfl
theorem q436 : (.codeWith yL_put cL_put 6 (some .int) [((0), (12), (15), (19)), ((0), (12), (19), (13))] : Cond) ∈ TBG := tbt_3 (List.mem_of_getElem? (i := 114) rfl) rfl
theorem q437 : (.classLink RL 19 "java/lang/IndexOutOfBoundsException" : Cond) ∈ TBG := tbt_3 (List.mem_of_getElem? (i := 115) rfl) rfl
theorem q438 : (.methodLink RL 15 yX7_put : Cond) ∈ TBG := tbt_3 (List.mem_of_getElem? (i := 116) rfl) rfl
theorem q439 : (.instanceMethod yX7_put : Cond) ∈ TBG := tbt_3 (List.mem_of_getElem? (i := 117) rfl) rfl
theorem q440 : (.selects RX7 yX7_put yX7_put : Cond) ∈ TBG := tbt_3 (List.mem_of_getElem? (i := 118) rfl) rfl
theorem q441 : (.code yX7_put cX7_put 5 (some .int) : Cond) ∈ TBG := tbt_3 (List.mem_of_getElem? (i := 119) rfl) rfl
theorem q442 : (.methodLink RX7 88 yX5_hasCell : Cond) ∈ TBG := tbt_3 (List.mem_of_getElem? (i := 120) rfl) rfl
theorem q443 : (.instanceMethod yX5_hasCell : Cond) ∈ TBG := tbt_3 (List.mem_of_getElem? (i := 121) rfl) rfl
theorem q444 : (.selects RX5 yX5_hasCell yX5_hasCell : Cond) ∈ TBG := tbt_3 (List.mem_of_getElem? (i := 122) rfl) rfl
theorem q445 : (.code yX5_hasCell cX5_hasCell 3 (some .boolean) : Cond) ∈ TBG := tbt_3 (List.mem_of_getElem? (i := 123) rfl) rfl
theorem q446 : (.methodLinkNest RX5 41 yX7_isFromTo RX7 : Cond) ∈ lw_tbl := tbl_3 (List.mem_of_getElem? (i := 124) rfl)
theorem q447 : (.classLink RX7 92 "java/lang/IndexOutOfBoundsException" : Cond) ∈ TBG := tbt_3 (List.mem_of_getElem? (i := 125) rfl) rfl
theorem q448 : (.instantiable "java/lang/IndexOutOfBoundsException" 6 : Cond) ∈ TBG := tbt_3 (List.mem_of_getElem? (i := 126) rfl) rfl
theorem q449 : (.castable "java/lang/IndexOutOfBoundsException" "java/lang/IndexOutOfBoundsException" : Cond) ∈ lw_tbl := tbl_3 (List.mem_of_getElem? (i := 127) rfl)
theorem q450 : (.selects "java/lang/IndexOutOfBoundsException" (⟨"java/lang/Throwable", "fillInStackTrace", "(I)Ljava/lang/Throwable;"⟩ : MethodName) (⟨"java/lang/Throwable", "fillInStackTrace", "(I)Ljava/lang/Throwable;"⟩ : MethodName) : Cond) ∈ TBG := tbt_3 (List.mem_of_getElem? (i := 128) rfl) rfl
theorem q451 : (.methodLink RX7 96 (⟨"java/lang/IndexOutOfBoundsException", "<init>", "(Ljava/lang/String;)V"⟩ : MethodName) : Cond) ∈ TBG := tbt_3 (List.mem_of_getElem? (i := 135) rfl) rfl
theorem q452 : (.instanceMethod (⟨"java/lang/IndexOutOfBoundsException", "<init>", "(Ljava/lang/String;)V"⟩ : MethodName) : Cond) ∈ TBG := tbt_3 (List.mem_of_getElem? (i := 136) rfl) rfl
theorem q453 : (.code (⟨"java/lang/IndexOutOfBoundsException", "<init>", "(Ljava/lang/String;)V"⟩ : MethodName) prog_15_method_2_code 2 none : Cond) ∈ TBG := tbt_3 (List.mem_of_getElem? (i := 137) rfl) rfl
theorem q454 : (.methodLink "java/lang/IndexOutOfBoundsException" 7 (⟨"java/lang/RuntimeException", "<init>", "(Ljava/lang/String;)V"⟩ : MethodName) : Cond) ∈ TBG := tbt_3 (List.mem_of_getElem? (i := 138) rfl) rfl
theorem q455 : (.methodLink RL 97 yL_points : Cond) ∈ TBG := tbt_3 (List.mem_of_getElem? (i := 142) rfl) rfl
theorem q456 : (.static yL_points : Cond) ∈ TBG := tbt_3 (List.mem_of_getElem? (i := 143) rfl) rfl
theorem q457 : (.codeWith yL_points cL_points 7 (some .int) [((0), (14), (17), (13))] : Cond) ∈ TBG := tbt_3 (List.mem_of_getElem? (i := 144) rfl) rfl
theorem q458 : (.methodLink RL 21 yX7_points : Cond) ∈ TBG := tbt_3 (List.mem_of_getElem? (i := 145) rfl) rfl
theorem q459 : (.instanceMethod yX7_points : Cond) ∈ TBG := tbt_3 (List.mem_of_getElem? (i := 146) rfl) rfl
theorem q460 : (.selects RX7 yX7_points yX7_points : Cond) ∈ TBG := tbt_3 (List.mem_of_getElem? (i := 147) rfl) rfl
theorem q461 : (.code yX7_points cX7_points 8 (some .int) : Cond) ∈ TBG := tbt_3 (List.mem_of_getElem? (i := 148) rfl) rfl
theorem q462 : (.methodLink RX7 109 yJ9_min_7cf53 : Cond) ∈ TBG := tbt_3 (List.mem_of_getElem? (i := 150) rfl) rfl
theorem q463 : (.methodLink RL 105 yL_find : Cond) ∈ TBG := tbt_3 (List.mem_of_getElem? (i := 151) rfl) rfl
theorem q464 : (.static yL_find : Cond) ∈ TBG := tbt_3 (List.mem_of_getElem? (i := 152) rfl) rfl
theorem q465 : (.codeWith yL_find cL_find 4 (some .int) [((0), (9), (12), (13)), ((0), (9), (15), (29))] : Cond) ∈ TBG := tbt_3 (List.mem_of_getElem? (i := 153) rfl) rfl
theorem q466 : (.classLink RL 29 "java/lang/IllegalStateException" : Cond) ∈ TBG := tbt_3 (List.mem_of_getElem? (i := 154) rfl) rfl
theorem q467 : (.methodLink RL 25 yX7_find : Cond) ∈ TBG := tbt_3 (List.mem_of_getElem? (i := 155) rfl) rfl
theorem q468 : (.instanceMethod yX7_find : Cond) ∈ TBG := tbt_3 (List.mem_of_getElem? (i := 156) rfl) rfl
theorem q469 : (.selects RX7 yX7_find yX7_find : Cond) ∈ TBG := tbt_3 (List.mem_of_getElem? (i := 157) rfl) rfl
theorem q470 : (.code yX7_find cX7_find 3 (some .int) : Cond) ∈ TBG := tbt_3 (List.mem_of_getElem? (i := 158) rfl) rfl
theorem q471 : (.methodLink RX7 136 yX7_isWay : Cond) ∈ TBG := tbt_3 (List.mem_of_getElem? (i := 159) rfl) rfl
theorem q472 : (.static yX7_isWay : Cond) ∈ TBG := tbt_3 (List.mem_of_getElem? (i := 160) rfl) rfl
theorem q473 : (.code yX7_isWay cX7_isWay 1 (some .boolean) : Cond) ∈ TBG := tbt_3 (List.mem_of_getElem? (i := 161) rfl) rfl
theorem q474 : (.methodLink RX7 142 yX7_isOpen : Cond) ∈ TBG := tbt_3 (List.mem_of_getElem? (i := 163) rfl) rfl
theorem q475 : (.instanceMethod yX7_isOpen : Cond) ∈ TBG := tbt_3 (List.mem_of_getElem? (i := 165) rfl) rfl
theorem q476 : (.code yX7_isOpen cX7_isOpen 2 (some .boolean) : Cond) ∈ TBG := tbt_3 (List.mem_of_getElem? (i := 166) rfl) rfl
theorem q477 : (.classLink RX7 145 "java/lang/IllegalStateException" : Cond) ∈ TBG := tbt_3 (List.mem_of_getElem? (i := 167) rfl) rfl
theorem q478 : (.instantiable "java/lang/IllegalStateException" 6 : Cond) ∈ TBG := tbt_3 (List.mem_of_getElem? (i := 168) rfl) rfl
theorem q479 : (.castable "java/lang/IllegalStateException" "java/lang/IllegalStateException" : Cond) ∈ lw_tbl := tbl_3 (List.mem_of_getElem? (i := 169) rfl)
theorem q480 : (.selects "java/lang/IllegalStateException" (⟨"java/lang/Throwable", "fillInStackTrace", "(I)Ljava/lang/Throwable;"⟩ : MethodName) (⟨"java/lang/Throwable", "fillInStackTrace", "(I)Ljava/lang/Throwable;"⟩ : MethodName) : Cond) ∈ TBG := tbt_3 (List.mem_of_getElem? (i := 170) rfl) rfl
theorem q481 : (.methodLink RX7 149 (⟨"java/lang/IllegalStateException", "<init>", "(Ljava/lang/String;)V"⟩ : MethodName) : Cond) ∈ TBG := tbt_3 (List.mem_of_getElem? (i := 177) rfl) rfl
theorem q482 : (.instanceMethod (⟨"java/lang/IllegalStateException", "<init>", "(Ljava/lang/String;)V"⟩ : MethodName) : Cond) ∈ TBG := tbt_3 (List.mem_of_getElem? (i := 178) rfl) rfl
theorem q483 : (.code (⟨"java/lang/IllegalStateException", "<init>", "(Ljava/lang/String;)V"⟩ : MethodName) prog_14_method_2_code 2 none : Cond) ∈ TBG := tbt_3 (List.mem_of_getElem? (i := 179) rfl) rfl
theorem q484 : (.methodLink "java/lang/IllegalStateException" 7 (⟨"java/lang/RuntimeException", "<init>", "(Ljava/lang/String;)V"⟩ : MethodName) : Cond) ∈ TBG := tbt_3 (List.mem_of_getElem? (i := 180) rfl) rfl
theorem q485 : (.methodLink RL 109 yL_weigh : Cond) ∈ TBG := tbt_3 (List.mem_of_getElem? (i := 183) rfl) rfl
theorem q486 : (.static yL_weigh : Cond) ∈ TBG := tbt_3 (List.mem_of_getElem? (i := 184) rfl) rfl
theorem q487 : (.codeWith yL_weigh cL_weigh 4 (some .int) [((0), (9), (12), (13)), ((0), (9), (15), (29))] : Cond) ∈ TBG := tbt_3 (List.mem_of_getElem? (i := 185) rfl) rfl
theorem q488 : (.methodLink RL 31 yX7_weigh : Cond) ∈ TBG := tbt_3 (List.mem_of_getElem? (i := 186) rfl) rfl
theorem q489 : (.instanceMethod yX7_weigh : Cond) ∈ TBG := tbt_3 (List.mem_of_getElem? (i := 187) rfl) rfl
theorem q490 : (.selects RX7 yX7_weigh yX7_weigh : Cond) ∈ TBG := tbt_3 (List.mem_of_getElem? (i := 188) rfl) rfl
theorem q491 : (.code yX7_weigh cX7_weigh 2 (some .int) : Cond) ∈ TBG := tbt_3 (List.mem_of_getElem? (i := 189) rfl) rfl
theorem q492 : (.methodLink RX7 171 yX5_addWeight : Cond) ∈ TBG := tbt_3 (List.mem_of_getElem? (i := 192) rfl) rfl
theorem q493 : (.instanceMethod yX5_addWeight : Cond) ∈ TBG := tbt_3 (List.mem_of_getElem? (i := 193) rfl) rfl
theorem q494 : (.selects RX5 yX5_addWeight yX5_addWeight : Cond) ∈ TBG := tbt_3 (List.mem_of_getElem? (i := 194) rfl) rfl
theorem q495 : (.code yX5_addWeight cX5_addWeight 2 none : Cond) ∈ TBG := tbt_3 (List.mem_of_getElem? (i := 195) rfl) rfl
theorem q496 : (.methodLink RL 112 yL_unweigh : Cond) ∈ TBG := tbt_3 (List.mem_of_getElem? (i := 196) rfl) rfl
theorem q497 : (.static yL_unweigh : Cond) ∈ TBG := tbt_3 (List.mem_of_getElem? (i := 197) rfl) rfl
theorem q498 : (.codeWith yL_unweigh cL_unweigh 3 (some .int) [((0), (8), (11), (29))] : Cond) ∈ TBG := tbt_3 (List.mem_of_getElem? (i := 198) rfl) rfl
theorem q499 : (.methodLink RL 34 yX7_unweigh : Cond) ∈ TBG := tbt_3 (List.mem_of_getElem? (i := 199) rfl) rfl
theorem q500 : (.instanceMethod yX7_unweigh : Cond) ∈ TBG := tbt_3 (List.mem_of_getElem? (i := 200) rfl) rfl
theorem q501 : (.selects RX7 yX7_unweigh yX7_unweigh : Cond) ∈ TBG := tbt_3 (List.mem_of_getElem? (i := 201) rfl) rfl
theorem q502 : (.code yX7_unweigh cX7_unweigh 1 (some .int) : Cond) ∈ TBG := tbt_3 (List.mem_of_getElem? (i := 202) rfl) rfl
theorem q503 : (.methodLink RL 116 yL_append : Cond) ∈ TBG := tbt_3 (List.mem_of_getElem? (i := 204) rfl) rfl
theorem q504 : (.static yL_append : Cond) ∈ TBG := tbt_3 (List.mem_of_getElem? (i := 205) rfl) rfl
theorem q505 : (.codeWith yL_append cL_append 4 (some .int) [((0), (9), (12), (13)), ((0), (9), (15), (29))] : Cond) ∈ TBG := tbt_3 (List.mem_of_getElem? (i := 206) rfl) rfl
theorem q506 : (.methodLink RL 38 yX7_append : Cond) ∈ TBG := tbt_3 (List.mem_of_getElem? (i := 207) rfl) rfl
theorem q507 : (.instanceMethod yX7_append : Cond) ∈ TBG := tbt_3 (List.mem_of_getElem? (i := 208) rfl) rfl
theorem q508 : (.selects RX7 yX7_append yX7_append : Cond) ∈ TBG := tbt_3 (List.mem_of_getElem? (i := 209) rfl) rfl
theorem q509 : (.code yX7_append cX7_append 2 (some .int) : Cond) ∈ TBG := tbt_3 (List.mem_of_getElem? (i := 210) rfl) rfl
theorem q510 : (.methodLink RX7 186 yX6_add : Cond) ∈ TBG := tbt_3 (List.mem_of_getElem? (i := 213) rfl) rfl
theorem q511 : (.instanceMethod yX6_add : Cond) ∈ TBG := tbt_3 (List.mem_of_getElem? (i := 214) rfl) rfl
theorem q512 : (.selects RX6 yX6_add yX6_add : Cond) ∈ TBG := tbt_3 (List.mem_of_getElem? (i := 215) rfl) rfl
theorem q513 : (.code yX6_add cX6_add 2 none : Cond) ∈ TBG := tbt_3 (List.mem_of_getElem? (i := 216) rfl) rfl
theorem q514 : (.methodLink RL 127 yL_load : Cond) ∈ TBG := tbt_3 (List.mem_of_getElem? (i := 217) rfl) rfl
theorem q515 : (.static yL_load : Cond) ∈ TBG := tbt_3 (List.mem_of_getElem? (i := 218) rfl) rfl
theorem q516 : (.codeWith yL_load cL_load 3 (some .int) [((0), (8), (11), (13))] : Cond) ∈ TBG := tbt_3 (List.mem_of_getElem? (i := 219) rfl) rfl
theorem q517 : (.methodLink RL 41 yX7_load : Cond) ∈ TBG := tbt_3 (List.mem_of_getElem? (i := 220) rfl) rfl
theorem q518 : (.instanceMethod yX7_load : Cond) ∈ TBG := tbt_3 (List.mem_of_getElem? (i := 221) rfl) rfl
theorem q519 : (.selects RX7 yX7_load yX7_load : Cond) ∈ TBG := tbt_3 (List.mem_of_getElem? (i := 222) rfl) rfl
theorem q520 : (.code yX7_load cX7_load 3 (some .int) : Cond) ∈ TBG := tbt_3 (List.mem_of_getElem? (i := 223) rfl) rfl
theorem q521 : (.methodLink RX7 195 yX6_tellsTable : Cond) ∈ TBG := tbt_3 (List.mem_of_getElem? (i := 224) rfl) rfl
theorem q522 : (.instanceMethod yX6_tellsTable : Cond) ∈ TBG := tbt_3 (List.mem_of_getElem? (i := 225) rfl) rfl
theorem q523 : (.selects RX6 yX6_tellsTable yX6_tellsTable : Cond) ∈ TBG := tbt_3 (List.mem_of_getElem? (i := 226) rfl) rfl
theorem q524 : (.code yX6_tellsTable cX6_tellsTable 1 (some .boolean) : Cond) ∈ TBG := tbt_3 (List.mem_of_getElem? (i := 227) rfl) rfl
theorem q525 : (.methodLink RX6 53 yX6_readToError : Cond) ∈ TBG := tbt_3 (List.mem_of_getElem? (i := 228) rfl) rfl
theorem q526 : (.methodLink RX7 200 yX6_rowsTold : Cond) ∈ TBG := tbt_3 (List.mem_of_getElem? (i := 230) rfl) rfl
theorem q527 : (.instanceMethod yX6_rowsTold : Cond) ∈ TBG := tbt_3 (List.mem_of_getElem? (i := 231) rfl) rfl
theorem q528 : (.selects RX6 yX6_rowsTold yX6_rowsTold : Cond) ∈ TBG := tbt_3 (List.mem_of_getElem? (i := 232) rfl) rfl
theorem q529 : (.code yX6_rowsTold cX6_rowsTold 1 (some .int) : Cond) ∈ TBG := tbt_3 (List.mem_of_getElem? (i := 233) rfl) rfl
theorem q530 : (.methodLink RX7 203 yX6_columnsTold : Cond) ∈ TBG := tbt_3 (List.mem_of_getElem? (i := 234) rfl) rfl
theorem q531 : (.instanceMethod yX6_columnsTold : Cond) ∈ TBG := tbt_3 (List.mem_of_getElem? (i := 235) rfl) rfl
theorem q532 : (.selects RX6 yX6_columnsTold yX6_columnsTold : Cond) ∈ TBG := tbt_3 (List.mem_of_getElem? (i := 236) rfl) rfl
theorem q533 : (.code yX6_columnsTold cX6_columnsTold 1 (some .int) : Cond) ∈ TBG := tbt_3 (List.mem_of_getElem? (i := 237) rfl) rfl
theorem q534 : (.methodLink RX7 206 yX6_numberTold : Cond) ∈ TBG := tbt_3 (List.mem_of_getElem? (i := 238) rfl) rfl
theorem q535 : (.instanceMethod yX6_numberTold : Cond) ∈ TBG := tbt_3 (List.mem_of_getElem? (i := 239) rfl) rfl
theorem q536 : (.selects RX6 yX6_numberTold yX6_numberTold : Cond) ∈ TBG := tbt_4 (List.mem_of_getElem? (i := 0) rfl) rfl
theorem q537 : (.code yX6_numberTold cX6_numberTold 3 (some .int) : Cond) ∈ TBG := tbt_4 (List.mem_of_getElem? (i := 1) rfl) rfl
theorem q538 : (.methodLink RL 130 yL_keep : Cond) ∈ TBG := tbt_4 (List.mem_of_getElem? (i := 2) rfl) rfl
theorem q539 : (.static yL_keep : Cond) ∈ TBG := tbt_4 (List.mem_of_getElem? (i := 3) rfl) rfl
theorem q540 : (.codeWith yL_keep cL_keep 4 (some .int) [((0), (9), (12), (13))] : Cond) ∈ TBG := tbt_4 (List.mem_of_getElem? (i := 4) rfl) rfl
theorem q541 : (.methodLink RL 44 yX7_keep : Cond) ∈ TBG := tbt_4 (List.mem_of_getElem? (i := 5) rfl) rfl
theorem q542 : (.instanceMethod yX7_keep : Cond) ∈ TBG := tbt_4 (List.mem_of_getElem? (i := 6) rfl) rfl
theorem q543 : (.selects RX7 yX7_keep yX7_keep : Cond) ∈ TBG := tbt_4 (List.mem_of_getElem? (i := 7) rfl) rfl
theorem q544 : (.code yX7_keep cX7_keep 2 (some .int) : Cond) ∈ TBG := tbt_4 (List.mem_of_getElem? (i := 8) rfl) rfl
theorem q545 : (.methodLink RX7 211 yX7_slotAt : Cond) ∈ TBG := tbt_4 (List.mem_of_getElem? (i := 10) rfl) rfl
theorem q546 : (.instanceMethod yX7_slotAt : Cond) ∈ TBG := tbt_4 (List.mem_of_getElem? (i := 12) rfl) rfl
theorem q547 : (.code yX7_slotAt cX7_slotAt 2 (some (.object "LeastRows$Slot")) : Cond) ∈ TBG := tbt_4 (List.mem_of_getElem? (i := 13) rfl) rfl
theorem q548 : (.methodLink RX7 215 yX4_fillFrom : Cond) ∈ TBG := tbt_4 (List.mem_of_getElem? (i := 14) rfl) rfl
theorem q549 : (.instanceMethod yX4_fillFrom : Cond) ∈ TBG := tbt_4 (List.mem_of_getElem? (i := 15) rfl) rfl
theorem q550 : (.selects RX4 yX4_fillFrom yX4_fillFrom : Cond) ∈ TBG := tbt_4 (List.mem_of_getElem? (i := 16) rfl) rfl
theorem q551 : (.code yX4_fillFrom cX4_fillFrom 2 none : Cond) ∈ TBG := tbt_4 (List.mem_of_getElem? (i := 17) rfl) rfl
theorem q552 : (.methodLink RX4 20 yX5_copyFrom : Cond) ∈ TBG := tbt_4 (List.mem_of_getElem? (i := 18) rfl) rfl
theorem q553 : (.methodLink RL 133 yL_goBack : Cond) ∈ TBG := tbt_4 (List.mem_of_getElem? (i := 19) rfl) rfl
theorem q554 : (.static yL_goBack : Cond) ∈ TBG := tbt_4 (List.mem_of_getElem? (i := 20) rfl) rfl
theorem q555 : (.codeWith yL_goBack cL_goBack 4 (some .int) [((0), (9), (12), (13)), ((0), (9), (15), (29))] : Cond) ∈ TBG := tbt_4 (List.mem_of_getElem? (i := 21) rfl) rfl
theorem q556 : (.methodLink RL 47 yX7_goBack : Cond) ∈ TBG := tbt_4 (List.mem_of_getElem? (i := 22) rfl) rfl
theorem q557 : (.instanceMethod yX7_goBack : Cond) ∈ TBG := tbt_4 (List.mem_of_getElem? (i := 23) rfl) rfl
theorem q558 : (.selects RX7 yX7_goBack yX7_goBack : Cond) ∈ TBG := tbt_4 (List.mem_of_getElem? (i := 24) rfl) rfl
theorem q559 : (.code yX7_goBack cX7_goBack 3 (some .int) : Cond) ∈ TBG := tbt_4 (List.mem_of_getElem? (i := 25) rfl) rfl
theorem q560 : (.methodLink RX7 227 yX5_copyFrom : Cond) ∈ TBG := tbt_4 (List.mem_of_getElem? (i := 27) rfl) rfl
theorem q561 : (.methodLink RL 136 yL_undo : Cond) ∈ TBG := tbt_4 (List.mem_of_getElem? (i := 28) rfl) rfl
theorem q562 : (.static yL_undo : Cond) ∈ TBG := tbt_4 (List.mem_of_getElem? (i := 29) rfl) rfl
theorem q563 : (.codeWith yL_undo cL_undo 3 (some .int) [((0), (8), (11), (29))] : Cond) ∈ TBG := tbt_4 (List.mem_of_getElem? (i := 30) rfl) rfl
theorem q564 : (.methodLink RL 50 yX7_undo : Cond) ∈ TBG := tbt_4 (List.mem_of_getElem? (i := 31) rfl) rfl
theorem q565 : (.instanceMethod yX7_undo : Cond) ∈ TBG := tbt_4 (List.mem_of_getElem? (i := 32) rfl) rfl
theorem q566 : (.selects RX7 yX7_undo yX7_undo : Cond) ∈ TBG := tbt_4 (List.mem_of_getElem? (i := 33) rfl) rfl
theorem q567 : (.code yX7_undo cX7_undo 1 (some .int) : Cond) ∈ TBG := tbt_4 (List.mem_of_getElem? (i := 34) rfl) rfl
theorem q568 : (.methodLink RX7 235 yX2_latest : Cond) ∈ TBG := tbt_4 (List.mem_of_getElem? (i := 36) rfl) rfl
theorem q569 : (.instanceMethod yX2_latest : Cond) ∈ TBG := tbt_4 (List.mem_of_getElem? (i := 37) rfl) rfl
theorem q570 : (.selects RX2 yX2_latest yX2_latest : Cond) ∈ TBG := tbt_4 (List.mem_of_getElem? (i := 38) rfl) rfl
theorem q571 : (.code yX2_latest cX2_latest 1 (some (.object "LeastRows$State")) : Cond) ∈ TBG := tbt_4 (List.mem_of_getElem? (i := 39) rfl) rfl
theorem q572 : (.methodLink RL 139 yL_cell : Cond) ∈ TBG := tbt_4 (List.mem_of_getElem? (i := 40) rfl) rfl
theorem q573 : (.static yL_cell : Cond) ∈ TBG := tbt_4 (List.mem_of_getElem? (i := 41) rfl) rfl
theorem q574 : (.codeWith yL_cell cL_cell 5 (some .int) [((0), (10), (13), (19))] : Cond) ∈ TBG := tbt_4 (List.mem_of_getElem? (i := 42) rfl) rfl
theorem q575 : (.methodLink RL 53 yX7_cell : Cond) ∈ TBG := tbt_4 (List.mem_of_getElem? (i := 43) rfl) rfl
theorem q576 : (.instanceMethod yX7_cell : Cond) ∈ TBG := tbt_4 (List.mem_of_getElem? (i := 44) rfl) rfl
theorem q577 : (.selects RX7 yX7_cell yX7_cell : Cond) ∈ TBG := tbt_4 (List.mem_of_getElem? (i := 45) rfl) rfl
theorem q578 : (.code yX7_cell cX7_cell 3 (some .int) : Cond) ∈ TBG := tbt_4 (List.mem_of_getElem? (i := 46) rfl) rfl
theorem q579 : (.methodLink RL 142 yL_place : Cond) ∈ TBG := tbt_4 (List.mem_of_getElem? (i := 47) rfl) rfl
theorem q580 : (.static yL_place : Cond) ∈ TBG := tbt_4 (List.mem_of_getElem? (i := 48) rfl) rfl
theorem q581 : (.codeWith yL_place cL_place 5 (some .int) [((0), (10), (13), (19)), ((0), (10), (17), (13))] : Cond) ∈ TBG := tbt_4 (List.mem_of_getElem? (i := 49) rfl) rfl
theorem q582 : (.methodLink RL 56 yX7_place : Cond) ∈ TBG := tbt_4 (List.mem_of_getElem? (i := 50) rfl) rfl
theorem q583 : (.instanceMethod yX7_place : Cond) ∈ TBG := tbt_4 (List.mem_of_getElem? (i := 51) rfl) rfl
theorem q584 : (.selects RX7 yX7_place yX7_place : Cond) ∈ TBG := tbt_4 (List.mem_of_getElem? (i := 52) rfl) rfl
theorem q585 : (.code yX7_place cX7_place 3 (some .int) : Cond) ∈ TBG := tbt_4 (List.mem_of_getElem? (i := 53) rfl) rfl
theorem q586 : (.methodLink RL 145 yL_looks : Cond) ∈ TBG := tbt_4 (List.mem_of_getElem? (i := 55) rfl) rfl
theorem q587 : (.static yL_looks : Cond) ∈ TBG := tbt_4 (List.mem_of_getElem? (i := 56) rfl) rfl
theorem q588 : (.codeWith yL_looks cL_looks 4 (some .int) [((0), (9), (12), (13))] : Cond) ∈ TBG := tbt_4 (List.mem_of_getElem? (i := 57) rfl) rfl
theorem q589 : (.methodLink RL 59 yX7_looks : Cond) ∈ TBG := tbt_4 (List.mem_of_getElem? (i := 58) rfl) rfl
theorem q590 : (.instanceMethod yX7_looks : Cond) ∈ TBG := tbt_4 (List.mem_of_getElem? (i := 59) rfl) rfl
theorem q591 : (.selects RX7 yX7_looks yX7_looks : Cond) ∈ TBG := tbt_4 (List.mem_of_getElem? (i := 60) rfl) rfl
theorem q592 : (.code yX7_looks cX7_looks 2 (some .int) : Cond) ∈ TBG := tbt_4 (List.mem_of_getElem? (i := 61) rfl) rfl
theorem q593 : (.methodLink RL 152 yL_witness : Cond) ∈ TBG := tbt_4 (List.mem_of_getElem? (i := 62) rfl) rfl
theorem q594 : (.static yL_witness : Cond) ∈ TBG := tbt_4 (List.mem_of_getElem? (i := 63) rfl) rfl
theorem q595 : (.codeWith yL_witness cL_witness 4 (some .int) [((0), (9), (12), (13))] : Cond) ∈ TBG := tbt_4 (List.mem_of_getElem? (i := 64) rfl) rfl
theorem q596 : (.methodLink RL 62 yX7_witness : Cond) ∈ TBG := tbt_4 (List.mem_of_getElem? (i := 65) rfl) rfl
theorem q597 : (.instanceMethod yX7_witness : Cond) ∈ TBG := tbt_4 (List.mem_of_getElem? (i := 66) rfl) rfl
theorem q598 : (.selects RX7 yX7_witness yX7_witness : Cond) ∈ TBG := tbt_4 (List.mem_of_getElem? (i := 67) rfl) rfl
theorem q599 : (.code yX7_witness cX7_witness 2 (some .int) : Cond) ∈ TBG := tbt_4 (List.mem_of_getElem? (i := 68) rfl) rfl
theorem q600 : (.methodLink RL 155 yL_count : Cond) ∈ TBG := tbt_4 (List.mem_of_getElem? (i := 70) rfl) rfl
theorem q601 : (.static yL_count : Cond) ∈ TBG := tbt_4 (List.mem_of_getElem? (i := 71) rfl) rfl
theorem q602 : (.codeWith yL_count cL_count 4 (some .int) [((0), (9), (12), (13))] : Cond) ∈ TBG := tbt_4 (List.mem_of_getElem? (i := 72) rfl) rfl
theorem q603 : (.methodLink RL 65 yX7_count : Cond) ∈ TBG := tbt_4 (List.mem_of_getElem? (i := 73) rfl) rfl
theorem q604 : (.instanceMethod yX7_count : Cond) ∈ TBG := tbt_4 (List.mem_of_getElem? (i := 74) rfl) rfl
theorem q605 : (.selects RX7 yX7_count yX7_count : Cond) ∈ TBG := tbt_4 (List.mem_of_getElem? (i := 75) rfl) rfl
theorem q606 : (.code yX7_count cX7_count 2 (some .int) : Cond) ∈ TBG := tbt_4 (List.mem_of_getElem? (i := 76) rfl) rfl
theorem q607 : (.methodLink RL 158 yL_weight : Cond) ∈ TBG := tbt_4 (List.mem_of_getElem? (i := 78) rfl) rfl
theorem q608 : (.static yL_weight : Cond) ∈ TBG := tbt_4 (List.mem_of_getElem? (i := 79) rfl) rfl
theorem q609 : (.codeWith yL_weight cL_weight 4 (some .int) [((0), (9), (12), (19))] : Cond) ∈ TBG := tbt_4 (List.mem_of_getElem? (i := 80) rfl) rfl
theorem q610 : (.methodLink RL 68 yX7_weight : Cond) ∈ TBG := tbt_4 (List.mem_of_getElem? (i := 81) rfl) rfl
theorem q611 : (.instanceMethod yX7_weight : Cond) ∈ TBG := tbt_4 (List.mem_of_getElem? (i := 82) rfl) rfl
theorem q612 : (.selects RX7 yX7_weight yX7_weight : Cond) ∈ TBG := tbt_4 (List.mem_of_getElem? (i := 83) rfl) rfl
theorem q613 : (.code yX7_weight cX7_weight 2 (some .int) : Cond) ∈ TBG := tbt_4 (List.mem_of_getElem? (i := 84) rfl) rfl
theorem q614 : (.methodLink RL 161 yL_cost : Cond) ∈ TBG := tbt_4 (List.mem_of_getElem? (i := 86) rfl) rfl
theorem q615 : (.static yL_cost : Cond) ∈ TBG := tbt_4 (List.mem_of_getElem? (i := 87) rfl) rfl
theorem q616 : (.codeWith yL_cost cL_cost 5 (some .int) [((0), (10), (13), (13))] : Cond) ∈ TBG := tbt_4 (List.mem_of_getElem? (i := 88) rfl) rfl
theorem q617 : (.methodLink RL 71 yX7_cost : Cond) ∈ TBG := tbt_4 (List.mem_of_getElem? (i := 89) rfl) rfl
theorem q618 : (.instanceMethod yX7_cost : Cond) ∈ TBG := tbt_4 (List.mem_of_getElem? (i := 90) rfl) rfl
theorem q619 : (.selects RX7 yX7_cost yX7_cost : Cond) ∈ TBG := tbt_4 (List.mem_of_getElem? (i := 91) rfl) rfl
theorem q620 : (.code yX7_cost cX7_cost 3 (some .int) : Cond) ∈ TBG := tbt_4 (List.mem_of_getElem? (i := 92) rfl) rfl
theorem q621 : (.methodLink RL 164 yL_cut : Cond) ∈ TBG := tbt_4 (List.mem_of_getElem? (i := 94) rfl) rfl
theorem q622 : (.static yL_cut : Cond) ∈ TBG := tbt_4 (List.mem_of_getElem? (i := 95) rfl) rfl
theorem q623 : (.codeWith yL_cut cL_cut 5 (some .int) [((0), (10), (13), (13))] : Cond) ∈ TBG := tbt_4 (List.mem_of_getElem? (i := 96) rfl) rfl
theorem q624 : (.methodLink RL 74 yX7_cut : Cond) ∈ TBG := tbt_4 (List.mem_of_getElem? (i := 97) rfl) rfl
theorem q625 : (.instanceMethod yX7_cut : Cond) ∈ TBG := tbt_4 (List.mem_of_getElem? (i := 98) rfl) rfl
theorem q626 : (.selects RX7 yX7_cut yX7_cut : Cond) ∈ TBG := tbt_4 (List.mem_of_getElem? (i := 99) rfl) rfl
theorem q627 : (.code yX7_cut cX7_cut 3 (some .int) : Cond) ∈ TBG := tbt_4 (List.mem_of_getElem? (i := 100) rfl) rfl
theorem q628 : (.methodLink RL 167 yL_fewestParts : Cond) ∈ TBG := tbt_4 (List.mem_of_getElem? (i := 102) rfl) rfl
theorem q629 : (.static yL_fewestParts : Cond) ∈ TBG := tbt_4 (List.mem_of_getElem? (i := 103) rfl) rfl
theorem q630 : (.codeWith yL_fewestParts cL_fewestParts 4 (some .int) [((0), (9), (12), (13))] : Cond) ∈ TBG := tbt_4 (List.mem_of_getElem? (i := 104) rfl) rfl
theorem q631 : (.methodLink RL 77 yX7_fewestParts : Cond) ∈ TBG := tbt_4 (List.mem_of_getElem? (i := 105) rfl) rfl
theorem q632 : (.instanceMethod yX7_fewestParts : Cond) ∈ TBG := tbt_4 (List.mem_of_getElem? (i := 106) rfl) rfl
theorem q633 : (.selects RX7 yX7_fewestParts yX7_fewestParts : Cond) ∈ TBG := tbt_4 (List.mem_of_getElem? (i := 107) rfl) rfl
theorem q634 : (.code yX7_fewestParts cX7_fewestParts 2 (some .int) : Cond) ∈ TBG := tbt_4 (List.mem_of_getElem? (i := 108) rfl) rfl
theorem q635 : (.constant RX7 275 (999999) : Cond) ∈ TBG := tbt_4 (List.mem_of_getElem? (i := 109) rfl) rfl
theorem q636 : (.classLink RL 81 RX8 : Cond) ∈ TBG := tbt_4 (List.mem_of_getElem? (i := 111) rfl) rfl
theorem q637 : (.instantiable RX8 21 : Cond) ∈ TBG := tbt_4 (List.mem_of_getElem? (i := 112) rfl) rfl
theorem q638 : (.methodLink RL 83 yX8_init : Cond) ∈ TBG := tbt_4 (List.mem_of_getElem? (i := 113) rfl) rfl
theorem q639 : (.instanceMethod yX8_init : Cond) ∈ TBG := tbt_4 (List.mem_of_getElem? (i := 114) rfl) rfl
theorem q640 : (.code yX8_init cX8_init 1 none : Cond) ∈ TBG := tbt_4 (List.mem_of_getElem? (i := 115) rfl) rfl
theorem q641 : (.methodLink RX8 1 objectInit : Cond) ∈ TBG := tbt_4 (List.mem_of_getElem? (i := 116) rfl) rfl
theorem q642 : (.fieldLink RX8 7 "LeastRowsModel" "now" "[I" : Cond) ∈ TBG := tbt_4 (List.mem_of_getElem? (i := 117) rfl) rfl
theorem q643 : (.fieldLink RX8 13 "LeastRowsModel" "past" "[I" : Cond) ∈ TBG := tbt_4 (List.mem_of_getElem? (i := 118) rfl) rfl
theorem q644 : (.fieldLink RX8 50 "LeastRowsModel" "states" "I" : Cond) ∈ TBG := tbt_4 (List.mem_of_getElem? (i := 119) rfl) rfl
theorem q645 : (.fieldLink RX8 16 "LeastRowsModel" "kept" "[I" : Cond) ∈ TBG := tbt_4 (List.mem_of_getElem? (i := 120) rfl) rfl
theorem q646 : (.fieldLink RX8 19 "LeastRowsModel" "isKept" "[I" : Cond) ∈ TBG := tbt_4 (List.mem_of_getElem? (i := 121) rfl) rfl
theorem q647 : (.fieldLink RX8 22 "LeastRowsModel" "text" "[I" : Cond) ∈ TBG := tbt_4 (List.mem_of_getElem? (i := 122) rfl) rfl
theorem q648 : (.fieldLink RX8 141 "LeastRowsModel" "length" "I" : Cond) ∈ TBG := tbt_4 (List.mem_of_getElem? (i := 123) rfl) rfl
theorem q649 : (.fieldLink RX8 46 "LeastRowsModel" "thrown" "I" : Cond) ∈ TBG := tbt_4 (List.mem_of_getElem? (i := 124) rfl) rfl
theorem q650 : (.fieldLink RX8 25 "LeastRowsModel" "places" "[I" : Cond) ∈ TBG := tbt_4 (List.mem_of_getElem? (i := 125) rfl) rfl
theorem q651 : (.fieldLink RX8 69 "LeastRowsModel" "looked" "I" : Cond) ∈ TBG := tbt_4 (List.mem_of_getElem? (i := 126) rfl) rfl
theorem q652 : (.fieldLink RX8 28 "LeastRowsModel" "open" "[I" : Cond) ∈ TBG := tbt_4 (List.mem_of_getElem? (i := 127) rfl) rfl
theorem q653 : (.fieldLink RX8 76 "LeastRowsModel" "opened" "I" : Cond) ∈ TBG := tbt_4 (List.mem_of_getElem? (i := 128) rfl) rfl
theorem q654 : (.fieldLink RX8 31 "LeastRowsModel" "left" "[I" : Cond) ∈ TBG := tbt_4 (List.mem_of_getElem? (i := 129) rfl) rfl
theorem q655 : (.fieldLink RX8 34 "LeastRowsModel" "lefts" "[I" : Cond) ∈ TBG := tbt_4 (List.mem_of_getElem? (i := 130) rfl) rfl
theorem q656 : (.fieldLink RX8 144 "LeastRowsModel" "spot" "I" : Cond) ∈ TBG := tbt_4 (List.mem_of_getElem? (i := 131) rfl) rfl
theorem q657 : (.fieldLink RX8 37 "LeastRowsModel" "told" "[I" : Cond) ∈ TBG := tbt_4 (List.mem_of_getElem? (i := 132) rfl) rfl
theorem q658 : (.fieldLink RX8 159 "LeastRowsModel" "toldRows" "I" : Cond) ∈ TBG := tbt_4 (List.mem_of_getElem? (i := 133) rfl) rfl
theorem q659 : (.fieldLink RX8 150 "LeastRowsModel" "toldColumns" "I" : Cond) ∈ TBG := tbt_4 (List.mem_of_getElem? (i := 134) rfl) rfl
theorem q660 : (.fieldLink RX8 40 "LeastRowsModel" "costs" "[I" : Cond) ∈ TBG := tbt_4 (List.mem_of_getElem? (i := 135) rfl) rfl
theorem q661 : (.fieldLink RX8 43 "LeastRowsModel" "lasts" "[I" : Cond) ∈ TBG := tbt_4 (List.mem_of_getElem? (i := 136) rfl) rfl
theorem q662 : (.fieldLink RX8 218 "LeastRowsModel" "hash" "J" : Cond) ∈ TBG := tbt_4 (List.mem_of_getElem? (i := 137) rfl) rfl
theorem q663 : (.methodLink RL 90 yX8_thrown : Cond) ∈ TBG := tbt_4 (List.mem_of_getElem? (i := 181) rfl) rfl
theorem q664 : (.instanceMethod yX8_thrown : Cond) ∈ TBG := tbt_4 (List.mem_of_getElem? (i := 182) rfl) rfl
theorem q665 : (.selects RX8 yX8_thrown yX8_thrown : Cond) ∈ TBG := tbt_4 (List.mem_of_getElem? (i := 183) rfl) rfl
theorem q666 : (.code yX8_thrown cX8_thrown 1 (some .int) : Cond) ∈ TBG := tbt_4 (List.mem_of_getElem? (i := 184) rfl) rfl
theorem q667 : (.methodLink RL 89 yX8_size : Cond) ∈ TBG := tbt_4 (List.mem_of_getElem? (i := 185) rfl) rfl
theorem q668 : (.instanceMethod yX8_size : Cond) ∈ TBG := tbt_4 (List.mem_of_getElem? (i := 186) rfl) rfl
theorem q669 : (.selects RX8 yX8_size yX8_size : Cond) ∈ TBG := tbt_4 (List.mem_of_getElem? (i := 187) rfl) rfl
theorem q670 : (.code yX8_size cX8_size 4 (some .int) : Cond) ∈ TBG := tbt_4 (List.mem_of_getElem? (i := 188) rfl) rfl
theorem q671 : (.methodLink RX8 89 yX8_in : Cond) ∈ TBG := tbt_4 (List.mem_of_getElem? (i := 189) rfl) rfl
theorem q672 : (.static yX8_in : Cond) ∈ TBG := tbt_4 (List.mem_of_getElem? (i := 190) rfl) rfl
theorem q673 : (.code yX8_in cX8_in 3 (some .boolean) : Cond) ∈ TBG := tbt_4 (List.mem_of_getElem? (i := 191) rfl) rfl
theorem q674 : (.methodLink RX8 126 yX8_refuses : Cond) ∈ TBG := tbt_4 (List.mem_of_getElem? (i := 192) rfl) rfl
theorem q675 : (.instanceMethod yX8_refuses : Cond) ∈ TBG := tbt_4 (List.mem_of_getElem? (i := 194) rfl) rfl
theorem q676 : (.code yX8_refuses cX8_refuses 2 (some .int) : Cond) ∈ TBG := tbt_4 (List.mem_of_getElem? (i := 195) rfl) rfl
theorem q677 : (.methodLink RX8 130 yX8_saves : Cond) ∈ TBG := tbt_4 (List.mem_of_getElem? (i := 196) rfl) rfl
theorem q678 : (.instanceMethod yX8_saves : Cond) ∈ TBG := tbt_4 (List.mem_of_getElem? (i := 198) rfl) rfl
theorem q679 : (.code yX8_saves cX8_saves 2 none : Cond) ∈ TBG := tbt_4 (List.mem_of_getElem? (i := 199) rfl) rfl
theorem q680 : (.methodLink RX8 53 yX8_lays : Cond) ∈ TBG := tbt_4 (List.mem_of_getElem? (i := 200) rfl) rfl
theorem q681 : (.static yX8_lays : Cond) ∈ TBG := tbt_4 (List.mem_of_getElem? (i := 201) rfl) rfl
theorem q682 : (.code yX8_lays cX8_lays 5 none : Cond) ∈ TBG := tbt_4 (List.mem_of_getElem? (i := 202) rfl) rfl
theorem q683 : (.methodLink RL 96 yX8_put : Cond) ∈ TBG := tbt_4 (List.mem_of_getElem? (i := 203) rfl) rfl
theorem q684 : (.instanceMethod yX8_put : Cond) ∈ TBG := tbt_4 (List.mem_of_getElem? (i := 204) rfl) rfl
theorem q685 : (.selects RX8 yX8_put yX8_put : Cond) ∈ TBG := tbt_4 (List.mem_of_getElem? (i := 205) rfl) rfl
theorem q686 : (.code yX8_put cX8_put 5 (some .int) : Cond) ∈ TBG := tbt_4 (List.mem_of_getElem? (i := 206) rfl) rfl
theorem q687 : (.methodLink RX8 133 yX8_isCell : Cond) ∈ TBG := tbt_4 (List.mem_of_getElem? (i := 207) rfl) rfl
theorem q688 : (.instanceMethod yX8_isCell : Cond) ∈ TBG := tbt_4 (List.mem_of_getElem? (i := 209) rfl) rfl
theorem q689 : (.code yX8_isCell cX8_isCell 3 (some .boolean) : Cond) ∈ TBG := tbt_4 (List.mem_of_getElem? (i := 210) rfl) rfl
theorem q690 : (.methodLink RX8 123 yX8_isRow : Cond) ∈ TBG := tbt_4 (List.mem_of_getElem? (i := 211) rfl) rfl
theorem q691 : (.instanceMethod yX8_isRow : Cond) ∈ TBG := tbt_4 (List.mem_of_getElem? (i := 213) rfl) rfl
theorem q692 : (.code yX8_isRow cX8_isRow 2 (some .boolean) : Cond) ∈ TBG := tbt_4 (List.mem_of_getElem? (i := 214) rfl) rfl
theorem q693 : (.methodLink RX8 57 yX8_at : Cond) ∈ TBG := tbt_4 (List.mem_of_getElem? (i := 215) rfl) rfl
theorem q694 : (.instanceMethod yX8_at : Cond) ∈ TBG := tbt_4 (List.mem_of_getElem? (i := 217) rfl) rfl
theorem q695 : (.code yX8_at cX8_at 3 (some .int) : Cond) ∈ TBG := tbt_4 (List.mem_of_getElem? (i := 218) rfl) rfl
theorem q696 : (.methodLink RX8 137 yX8_becomes : Cond) ∈ TBG := tbt_4 (List.mem_of_getElem? (i := 219) rfl) rfl
theorem q697 : (.instanceMethod yX8_becomes : Cond) ∈ TBG := tbt_4 (List.mem_of_getElem? (i := 221) rfl) rfl
theorem q698 : (.code yX8_becomes cX8_becomes 4 none : Cond) ∈ TBG := tbt_4 (List.mem_of_getElem? (i := 222) rfl) rfl
theorem q699 : (.methodLink RL 100 yX8_points : Cond) ∈ TBG := tbt_4 (List.mem_of_getElem? (i := 223) rfl) rfl
theorem q700 : (.instanceMethod yX8_points : Cond) ∈ TBG := tbt_4 (List.mem_of_getElem? (i := 224) rfl) rfl
theorem q701 : (.selects RX8 yX8_points yX8_points : Cond) ∈ TBG := tbt_4 (List.mem_of_getElem? (i := 225) rfl) rfl
theorem q702 : (.code yX8_points cX8_points 7 (some .int) : Cond) ∈ TBG := tbt_4 (List.mem_of_getElem? (i := 226) rfl) rfl
theorem q703 : (.methodLink RX8 112 yX8_isKeeping : Cond) ∈ TBG := tbt_4 (List.mem_of_getElem? (i := 227) rfl) rfl
theorem q704 : (.instanceMethod yX8_isKeeping : Cond) ∈ TBG := tbt_4 (List.mem_of_getElem? (i := 229) rfl) rfl
theorem q705 : (.code yX8_isKeeping cX8_isKeeping 1 (some .boolean) : Cond) ∈ TBG := tbt_4 (List.mem_of_getElem? (i := 230) rfl) rfl
theorem q706 : (.methodLink RX8 65 yX8_first : Cond) ∈ TBG := tbt_4 (List.mem_of_getElem? (i := 231) rfl) rfl
theorem q707 : (.instanceMethod yX8_first : Cond) ∈ TBG := tbt_4 (List.mem_of_getElem? (i := 233) rfl) rfl
theorem q708 : (.code yX8_first cX8_first 4 (some .int) : Cond) ∈ TBG := tbt_4 (List.mem_of_getElem? (i := 234) rfl) rfl
theorem q709 : (.methodLink RX8 61 yX8_isAgainst : Cond) ∈ TBG := tbt_4 (List.mem_of_getElem? (i := 235) rfl) rfl
theorem q710 : (.instanceMethod yX8_isAgainst : Cond) ∈ TBG := tbt_4 (List.mem_of_getElem? (i := 237) rfl) rfl
theorem q711 : (.code yX8_isAgainst cX8_isAgainst 4 (some .boolean) : Cond) ∈ TBG := tbt_4 (List.mem_of_getElem? (i := 238) rfl) rfl
theorem q712 : (.methodLink RL 104 yX8_mend : Cond) ∈ TBG := tbt_4 (List.mem_of_getElem? (i := 239) rfl) rfl
theorem q713 : (.instanceMethod yX8_mend : Cond) ∈ TBG := tbt_5 (List.mem_of_getElem? (i := 0) rfl) rfl
theorem q714 : (.selects RX8 yX8_mend yX8_mend : Cond) ∈ TBG := tbt_5 (List.mem_of_getElem? (i := 1) rfl) rfl
theorem q715 : (.code yX8_mend cX8_mend 4 (some .int) : Cond) ∈ TBG := tbt_5 (List.mem_of_getElem? (i := 2) rfl) rfl
theorem q716 : (.methodLink RL 108 yX8_find : Cond) ∈ TBG := tbt_5 (List.mem_of_getElem? (i := 3) rfl) rfl
theorem q717 : (.instanceMethod yX8_find : Cond) ∈ TBG := tbt_5 (List.mem_of_getElem? (i := 4) rfl) rfl
theorem q718 : (.selects RX8 yX8_find yX8_find : Cond) ∈ TBG := tbt_5 (List.mem_of_getElem? (i := 5) rfl) rfl
theorem q719 : (.code yX8_find cX8_find 2 (some .int) : Cond) ∈ TBG := tbt_5 (List.mem_of_getElem? (i := 6) rfl) rfl
theorem q720 : (.methodLink RX8 116 yX8_canGo : Cond) ∈ TBG := tbt_5 (List.mem_of_getElem? (i := 7) rfl) rfl
theorem q721 : (.instanceMethod yX8_canGo : Cond) ∈ TBG := tbt_5 (List.mem_of_getElem? (i := 9) rfl) rfl
theorem q722 : (.code yX8_canGo cX8_canGo 2 (some .boolean) : Cond) ∈ TBG := tbt_5 (List.mem_of_getElem? (i := 10) rfl) rfl
theorem q723 : (.methodLink RX8 120 yX8_finds : Cond) ∈ TBG := tbt_5 (List.mem_of_getElem? (i := 11) rfl) rfl
theorem q724 : (.instanceMethod yX8_finds : Cond) ∈ TBG := tbt_5 (List.mem_of_getElem? (i := 13) rfl) rfl
theorem q725 : (.code yX8_finds cX8_finds 2 none : Cond) ∈ TBG := tbt_5 (List.mem_of_getElem? (i := 14) rfl) rfl
theorem q726 : (.methodLink RX8 103 yX8_byAll : Cond) ∈ TBG := tbt_5 (List.mem_of_getElem? (i := 15) rfl) rfl
theorem q727 : (.instanceMethod yX8_byAll : Cond) ∈ TBG := tbt_5 (List.mem_of_getElem? (i := 17) rfl) rfl
theorem q728 : (.code yX8_byAll cX8_byAll 2 none : Cond) ∈ TBG := tbt_5 (List.mem_of_getElem? (i := 18) rfl) rfl
theorem q729 : (.methodLink RX8 72 yX8_least : Cond) ∈ TBG := tbt_5 (List.mem_of_getElem? (i := 19) rfl) rfl
theorem q730 : (.instanceMethod yX8_least : Cond) ∈ TBG := tbt_5 (List.mem_of_getElem? (i := 21) rfl) rfl
theorem q731 : (.code yX8_least cX8_least 6 (some .int) : Cond) ∈ TBG := tbt_5 (List.mem_of_getElem? (i := 22) rfl) rfl
theorem q732 : (.methodLink RX8 106 yX8_byHalves : Cond) ∈ TBG := tbt_5 (List.mem_of_getElem? (i := 23) rfl) rfl
theorem q733 : (.instanceMethod yX8_byHalves : Cond) ∈ TBG := tbt_5 (List.mem_of_getElem? (i := 25) rfl) rfl
theorem q734 : (.code yX8_byHalves cX8_byHalves 6 none : Cond) ∈ TBG := tbt_5 (List.mem_of_getElem? (i := 26) rfl) rfl
theorem q735 : (.methodLink RX8 79 yX8_opens : Cond) ∈ TBG := tbt_5 (List.mem_of_getElem? (i := 27) rfl) rfl
theorem q736 : (.instanceMethod yX8_opens : Cond) ∈ TBG := tbt_5 (List.mem_of_getElem? (i := 29) rfl) rfl
theorem q737 : (.code yX8_opens cX8_opens 5 none : Cond) ∈ TBG := tbt_5 (List.mem_of_getElem? (i := 30) rfl) rfl
theorem q738 : (.methodLink RX8 109 yX8_byThrowing : Cond) ∈ TBG := tbt_5 (List.mem_of_getElem? (i := 31) rfl) rfl
theorem q739 : (.instanceMethod yX8_byThrowing : Cond) ∈ TBG := tbt_5 (List.mem_of_getElem? (i := 33) rfl) rfl
theorem q740 : (.code yX8_byThrowing cX8_byThrowing 2 none : Cond) ∈ TBG := tbt_5 (List.mem_of_getElem? (i := 34) rfl) rfl
theorem q741 : (.methodLink RX8 96 yX8_throwsOut : Cond) ∈ TBG := tbt_5 (List.mem_of_getElem? (i := 35) rfl) rfl
theorem q742 : (.instanceMethod yX8_throwsOut : Cond) ∈ TBG := tbt_5 (List.mem_of_getElem? (i := 37) rfl) rfl
theorem q743 : (.code yX8_throwsOut cX8_throwsOut 5 none : Cond) ∈ TBG := tbt_5 (List.mem_of_getElem? (i := 38) rfl) rfl
theorem q744 : (.methodLink RX8 86 yX8_piles : Cond) ∈ TBG := tbt_5 (List.mem_of_getElem? (i := 39) rfl) rfl
theorem q745 : (.instanceMethod yX8_piles : Cond) ∈ TBG := tbt_5 (List.mem_of_getElem? (i := 41) rfl) rfl
theorem q746 : (.code yX8_piles cX8_piles 8 (some .int) : Cond) ∈ TBG := tbt_5 (List.mem_of_getElem? (i := 42) rfl) rfl
theorem q747 : (.methodLink RX8 83 yX8_rowAt : Cond) ∈ TBG := tbt_5 (List.mem_of_getElem? (i := 43) rfl) rfl
theorem q748 : (.static yX8_rowAt : Cond) ∈ TBG := tbt_5 (List.mem_of_getElem? (i := 44) rfl) rfl
theorem q749 : (.code yX8_rowAt cX8_rowAt 2 (some .int) : Cond) ∈ TBG := tbt_5 (List.mem_of_getElem? (i := 45) rfl) rfl
theorem q750 : (.methodLink RX8 100 yX8_fills : Cond) ∈ TBG := tbt_5 (List.mem_of_getElem? (i := 46) rfl) rfl
theorem q751 : (.instanceMethod yX8_fills : Cond) ∈ TBG := tbt_5 (List.mem_of_getElem? (i := 48) rfl) rfl
theorem q752 : (.code yX8_fills cX8_fills 7 none : Cond) ∈ TBG := tbt_5 (List.mem_of_getElem? (i := 49) rfl) rfl
theorem q753 : (.methodLink RX8 92 yX8_leastLeft : Cond) ∈ TBG := tbt_5 (List.mem_of_getElem? (i := 50) rfl) rfl
theorem q754 : (.instanceMethod yX8_leastLeft : Cond) ∈ TBG := tbt_5 (List.mem_of_getElem? (i := 52) rfl) rfl
theorem q755 : (.code yX8_leastLeft cX8_leastLeft 8 (some .int) : Cond) ∈ TBG := tbt_5 (List.mem_of_getElem? (i := 53) rfl) rfl
theorem q756 : (.methodLink RL 111 yX8_weigh : Cond) ∈ TBG := tbt_5 (List.mem_of_getElem? (i := 54) rfl) rfl
theorem q757 : (.instanceMethod yX8_weigh : Cond) ∈ TBG := tbt_5 (List.mem_of_getElem? (i := 55) rfl) rfl
theorem q758 : (.selects RX8 yX8_weigh yX8_weigh : Cond) ∈ TBG := tbt_5 (List.mem_of_getElem? (i := 56) rfl) rfl
theorem q759 : (.code yX8_weigh cX8_weigh 2 (some .int) : Cond) ∈ TBG := tbt_5 (List.mem_of_getElem? (i := 57) rfl) rfl
theorem q760 : (.methodLink RL 115 yX8_unweigh : Cond) ∈ TBG := tbt_5 (List.mem_of_getElem? (i := 58) rfl) rfl
theorem q761 : (.instanceMethod yX8_unweigh : Cond) ∈ TBG := tbt_5 (List.mem_of_getElem? (i := 59) rfl) rfl
theorem q762 : (.selects RX8 yX8_unweigh yX8_unweigh : Cond) ∈ TBG := tbt_5 (List.mem_of_getElem? (i := 60) rfl) rfl
theorem q763 : (.code yX8_unweigh cX8_unweigh 2 (some .int) : Cond) ∈ TBG := tbt_5 (List.mem_of_getElem? (i := 61) rfl) rfl
theorem q764 : (.methodLink RL 118 yX8_append : Cond) ∈ TBG := tbt_5 (List.mem_of_getElem? (i := 62) rfl) rfl
theorem q765 : (.instanceMethod yX8_append : Cond) ∈ TBG := tbt_5 (List.mem_of_getElem? (i := 63) rfl) rfl
theorem q766 : (.selects RX8 yX8_append yX8_append : Cond) ∈ TBG := tbt_5 (List.mem_of_getElem? (i := 64) rfl) rfl
theorem q767 : (.code yX8_append cX8_append 2 (some .int) : Cond) ∈ TBG := tbt_5 (List.mem_of_getElem? (i := 65) rfl) rfl
theorem q768 : (.methodLink RL 122 yX8_clearBuffer : Cond) ∈ TBG := tbt_5 (List.mem_of_getElem? (i := 66) rfl) rfl
theorem q769 : (.instanceMethod yX8_clearBuffer : Cond) ∈ TBG := tbt_5 (List.mem_of_getElem? (i := 67) rfl) rfl
theorem q770 : (.selects RX8 yX8_clearBuffer yX8_clearBuffer : Cond) ∈ TBG := tbt_5 (List.mem_of_getElem? (i := 68) rfl) rfl
theorem q771 : (.code yX8_clearBuffer cX8_clearBuffer 2 (some .int) : Cond) ∈ TBG := tbt_5 (List.mem_of_getElem? (i := 69) rfl) rfl
theorem q772 : (.methodLink RL 126 yX8_firstError : Cond) ∈ TBG := tbt_5 (List.mem_of_getElem? (i := 70) rfl) rfl
theorem q773 : (.instanceMethod yX8_firstError : Cond) ∈ TBG := tbt_5 (List.mem_of_getElem? (i := 71) rfl) rfl
theorem q774 : (.selects RX8 yX8_firstError yX8_firstError : Cond) ∈ TBG := tbt_5 (List.mem_of_getElem? (i := 72) rfl) rfl
theorem q775 : (.code yX8_firstError cX8_firstError 1 (some .int) : Cond) ∈ TBG := tbt_5 (List.mem_of_getElem? (i := 73) rfl) rfl
theorem q776 : (.methodLink RX8 165 yX8_isWhole : Cond) ∈ TBG := tbt_5 (List.mem_of_getElem? (i := 74) rfl) rfl
theorem q777 : (.instanceMethod yX8_isWhole : Cond) ∈ TBG := tbt_5 (List.mem_of_getElem? (i := 76) rfl) rfl
theorem q778 : (.code yX8_isWhole cX8_isWhole 3 (some .boolean) : Cond) ∈ TBG := tbt_5 (List.mem_of_getElem? (i := 77) rfl) rfl
theorem q779 : (.methodLink RX8 162 yX8_isLine : Cond) ∈ TBG := tbt_5 (List.mem_of_getElem? (i := 78) rfl) rfl
theorem q780 : (.instanceMethod yX8_isLine : Cond) ∈ TBG := tbt_5 (List.mem_of_getElem? (i := 80) rfl) rfl
theorem q781 : (.code yX8_isLine cX8_isLine 5 (some .int) : Cond) ∈ TBG := tbt_5 (List.mem_of_getElem? (i := 81) rfl) rfl
theorem q782 : (.methodLink RX8 153 yX8_isNumber : Cond) ∈ TBG := tbt_5 (List.mem_of_getElem? (i := 82) rfl) rfl
theorem q783 : (.instanceMethod yX8_isNumber : Cond) ∈ TBG := tbt_5 (List.mem_of_getElem? (i := 84) rfl) rfl
theorem q784 : (.code yX8_isNumber cX8_isNumber 4 (some .boolean) : Cond) ∈ TBG := tbt_5 (List.mem_of_getElem? (i := 85) rfl) rfl
theorem q785 : (.methodLink RX8 147 yX8_sees : Cond) ∈ TBG := tbt_5 (List.mem_of_getElem? (i := 86) rfl) rfl
theorem q786 : (.instanceMethod yX8_sees : Cond) ∈ TBG := tbt_5 (List.mem_of_getElem? (i := 88) rfl) rfl
theorem q787 : (.code yX8_sees cX8_sees 3 (some .boolean) : Cond) ∈ TBG := tbt_5 (List.mem_of_getElem? (i := 89) rfl) rfl
theorem q788 : (.methodLink RX8 156 yX8_takes : Cond) ∈ TBG := tbt_5 (List.mem_of_getElem? (i := 90) rfl) rfl
theorem q789 : (.instanceMethod yX8_takes : Cond) ∈ TBG := tbt_5 (List.mem_of_getElem? (i := 92) rfl) rfl
theorem q790 : (.code yX8_takes cX8_takes 3 (some .boolean) : Cond) ∈ TBG := tbt_5 (List.mem_of_getElem? (i := 93) rfl) rfl
theorem q791 : (.methodLink RL 129 yX8_load : Cond) ∈ TBG := tbt_5 (List.mem_of_getElem? (i := 94) rfl) rfl
theorem q792 : (.instanceMethod yX8_load : Cond) ∈ TBG := tbt_5 (List.mem_of_getElem? (i := 95) rfl) rfl
theorem q793 : (.selects RX8 yX8_load yX8_load : Cond) ∈ TBG := tbt_5 (List.mem_of_getElem? (i := 96) rfl) rfl
theorem q794 : (.code yX8_load cX8_load 2 (some .int) : Cond) ∈ TBG := tbt_5 (List.mem_of_getElem? (i := 97) rfl) rfl
theorem q795 : (.methodLink RL 132 yX8_keep : Cond) ∈ TBG := tbt_5 (List.mem_of_getElem? (i := 98) rfl) rfl
theorem q796 : (.instanceMethod yX8_keep : Cond) ∈ TBG := tbt_5 (List.mem_of_getElem? (i := 99) rfl) rfl
theorem q797 : (.selects RX8 yX8_keep yX8_keep : Cond) ∈ TBG := tbt_5 (List.mem_of_getElem? (i := 100) rfl) rfl
theorem q798 : (.code yX8_keep cX8_keep 2 (some .int) : Cond) ∈ TBG := tbt_5 (List.mem_of_getElem? (i := 101) rfl) rfl
theorem q799 : (.methodLink RL 135 yX8_goBack : Cond) ∈ TBG := tbt_5 (List.mem_of_getElem? (i := 102) rfl) rfl
theorem q800 : (.instanceMethod yX8_goBack : Cond) ∈ TBG := tbt_5 (List.mem_of_getElem? (i := 103) rfl) rfl
theorem q801 : (.selects RX8 yX8_goBack yX8_goBack : Cond) ∈ TBG := tbt_5 (List.mem_of_getElem? (i := 104) rfl) rfl
theorem q802 : (.code yX8_goBack cX8_goBack 2 (some .int) : Cond) ∈ TBG := tbt_5 (List.mem_of_getElem? (i := 105) rfl) rfl
theorem q803 : (.methodLink RL 138 yX8_undo : Cond) ∈ TBG := tbt_5 (List.mem_of_getElem? (i := 106) rfl) rfl
theorem q804 : (.instanceMethod yX8_undo : Cond) ∈ TBG := tbt_5 (List.mem_of_getElem? (i := 107) rfl) rfl
theorem q805 : (.selects RX8 yX8_undo yX8_undo : Cond) ∈ TBG := tbt_5 (List.mem_of_getElem? (i := 108) rfl) rfl
theorem q806 : (.code yX8_undo cX8_undo 1 (some .int) : Cond) ∈ TBG := tbt_5 (List.mem_of_getElem? (i := 109) rfl) rfl
theorem q807 : (.methodLink RL 141 yX8_cell : Cond) ∈ TBG := tbt_5 (List.mem_of_getElem? (i := 110) rfl) rfl
theorem q808 : (.instanceMethod yX8_cell : Cond) ∈ TBG := tbt_5 (List.mem_of_getElem? (i := 111) rfl) rfl
theorem q809 : (.selects RX8 yX8_cell yX8_cell : Cond) ∈ TBG := tbt_5 (List.mem_of_getElem? (i := 112) rfl) rfl
theorem q810 : (.code yX8_cell cX8_cell 3 (some .int) : Cond) ∈ TBG := tbt_5 (List.mem_of_getElem? (i := 113) rfl) rfl
theorem q811 : (.methodLink RL 144 yX8_place : Cond) ∈ TBG := tbt_5 (List.mem_of_getElem? (i := 114) rfl) rfl
theorem q812 : (.instanceMethod yX8_place : Cond) ∈ TBG := tbt_5 (List.mem_of_getElem? (i := 115) rfl) rfl
theorem q813 : (.selects RX8 yX8_place yX8_place : Cond) ∈ TBG := tbt_5 (List.mem_of_getElem? (i := 116) rfl) rfl
theorem q814 : (.code yX8_place cX8_place 3 (some .int) : Cond) ∈ TBG := tbt_5 (List.mem_of_getElem? (i := 117) rfl) rfl
theorem q815 : (.methodLink RX8 168 yX8_placeBy : Cond) ∈ TBG := tbt_5 (List.mem_of_getElem? (i := 118) rfl) rfl
theorem q816 : (.instanceMethod yX8_placeBy : Cond) ∈ TBG := tbt_5 (List.mem_of_getElem? (i := 120) rfl) rfl
theorem q817 : (.code yX8_placeBy cX8_placeBy 3 (some .int) : Cond) ∈ TBG := tbt_5 (List.mem_of_getElem? (i := 121) rfl) rfl
theorem q818 : (.methodLink RL 147 yX8_looks : Cond) ∈ TBG := tbt_5 (List.mem_of_getElem? (i := 122) rfl) rfl
theorem q819 : (.instanceMethod yX8_looks : Cond) ∈ TBG := tbt_5 (List.mem_of_getElem? (i := 123) rfl) rfl
theorem q820 : (.selects RX8 yX8_looks yX8_looks : Cond) ∈ TBG := tbt_5 (List.mem_of_getElem? (i := 124) rfl) rfl
theorem q821 : (.code yX8_looks cX8_looks 2 (some .int) : Cond) ∈ TBG := tbt_5 (List.mem_of_getElem? (i := 125) rfl) rfl
theorem q822 : (.methodLink RX8 171 yX8_looksBy : Cond) ∈ TBG := tbt_5 (List.mem_of_getElem? (i := 126) rfl) rfl
theorem q823 : (.instanceMethod yX8_looksBy : Cond) ∈ TBG := tbt_5 (List.mem_of_getElem? (i := 128) rfl) rfl
theorem q824 : (.code yX8_looksBy cX8_looksBy 2 (some .int) : Cond) ∈ TBG := tbt_5 (List.mem_of_getElem? (i := 129) rfl) rfl
theorem q825 : (.methodLink RL 151 yX8_bound : Cond) ∈ TBG := tbt_5 (List.mem_of_getElem? (i := 130) rfl) rfl
theorem q826 : (.instanceMethod yX8_bound : Cond) ∈ TBG := tbt_5 (List.mem_of_getElem? (i := 131) rfl) rfl
theorem q827 : (.selects RX8 yX8_bound yX8_bound : Cond) ∈ TBG := tbt_5 (List.mem_of_getElem? (i := 132) rfl) rfl
theorem q828 : (.code yX8_bound cX8_bound 1 (some .int) : Cond) ∈ TBG := tbt_5 (List.mem_of_getElem? (i := 133) rfl) rfl
theorem q829 : (.methodLink RX8 174 yX8_bounds : Cond) ∈ TBG := tbt_5 (List.mem_of_getElem? (i := 134) rfl) rfl
theorem q830 : (.instanceMethod yX8_bounds : Cond) ∈ TBG := tbt_5 (List.mem_of_getElem? (i := 136) rfl) rfl
theorem q831 : (.code yX8_bounds cX8_bounds 3 (some .int) : Cond) ∈ TBG := tbt_5 (List.mem_of_getElem? (i := 137) rfl) rfl
theorem q832 : (.methodLink RL 154 yX8_witness : Cond) ∈ TBG := tbt_5 (List.mem_of_getElem? (i := 138) rfl) rfl
theorem q833 : (.instanceMethod yX8_witness : Cond) ∈ TBG := tbt_5 (List.mem_of_getElem? (i := 139) rfl) rfl
theorem q834 : (.selects RX8 yX8_witness yX8_witness : Cond) ∈ TBG := tbt_5 (List.mem_of_getElem? (i := 140) rfl) rfl
theorem q835 : (.code yX8_witness cX8_witness 2 (some .int) : Cond) ∈ TBG := tbt_5 (List.mem_of_getElem? (i := 141) rfl) rfl
theorem q836 : (.methodLink RX8 180 yX8_testified : Cond) ∈ TBG := tbt_5 (List.mem_of_getElem? (i := 142) rfl) rfl
theorem q837 : (.instanceMethod yX8_testified : Cond) ∈ TBG := tbt_5 (List.mem_of_getElem? (i := 144) rfl) rfl
theorem q838 : (.code yX8_testified cX8_testified 3 (some .int) : Cond) ∈ TBG := tbt_5 (List.mem_of_getElem? (i := 145) rfl) rfl
theorem q839 : (.methodLink RX8 177 yX8_witnesses : Cond) ∈ TBG := tbt_5 (List.mem_of_getElem? (i := 146) rfl) rfl
theorem q840 : (.instanceMethod yX8_witnesses : Cond) ∈ TBG := tbt_5 (List.mem_of_getElem? (i := 148) rfl) rfl
theorem q841 : (.code yX8_witnesses cX8_witnesses 5 (some .int) : Cond) ∈ TBG := tbt_5 (List.mem_of_getElem? (i := 149) rfl) rfl
theorem q842 : (.methodLink RL 157 yX8_count : Cond) ∈ TBG := tbt_5 (List.mem_of_getElem? (i := 150) rfl) rfl
theorem q843 : (.instanceMethod yX8_count : Cond) ∈ TBG := tbt_5 (List.mem_of_getElem? (i := 151) rfl) rfl
theorem q844 : (.selects RX8 yX8_count yX8_count : Cond) ∈ TBG := tbt_5 (List.mem_of_getElem? (i := 152) rfl) rfl
theorem q845 : (.code yX8_count cX8_count 2 (some .int) : Cond) ∈ TBG := tbt_5 (List.mem_of_getElem? (i := 153) rfl) rfl
theorem q846 : (.methodLink RX8 189 yX8_counted : Cond) ∈ TBG := tbt_5 (List.mem_of_getElem? (i := 154) rfl) rfl
theorem q847 : (.instanceMethod yX8_counted : Cond) ∈ TBG := tbt_5 (List.mem_of_getElem? (i := 156) rfl) rfl
theorem q848 : (.code yX8_counted cX8_counted 2 (some .int) : Cond) ∈ TBG := tbt_5 (List.mem_of_getElem? (i := 157) rfl) rfl
theorem q849 : (.methodLink RX8 183 yX8_weighs : Cond) ∈ TBG := tbt_5 (List.mem_of_getElem? (i := 158) rfl) rfl
theorem q850 : (.instanceMethod yX8_weighs : Cond) ∈ TBG := tbt_5 (List.mem_of_getElem? (i := 160) rfl) rfl
theorem q851 : (.code yX8_weighs cX8_weighs 5 (some .int) : Cond) ∈ TBG := tbt_5 (List.mem_of_getElem? (i := 161) rfl) rfl
theorem q852 : (.methodLink RX8 186 yX8_goingBack : Cond) ∈ TBG := tbt_5 (List.mem_of_getElem? (i := 162) rfl) rfl
theorem q853 : (.instanceMethod yX8_goingBack : Cond) ∈ TBG := tbt_5 (List.mem_of_getElem? (i := 164) rfl) rfl
theorem q854 : (.code yX8_goingBack cX8_goingBack 3 (some .int) : Cond) ∈ TBG := tbt_5 (List.mem_of_getElem? (i := 165) rfl) rfl
theorem q855 : (.methodLink RL 160 yX8_weight : Cond) ∈ TBG := tbt_5 (List.mem_of_getElem? (i := 166) rfl) rfl
theorem q856 : (.instanceMethod yX8_weight : Cond) ∈ TBG := tbt_5 (List.mem_of_getElem? (i := 167) rfl) rfl
theorem q857 : (.selects RX8 yX8_weight yX8_weight : Cond) ∈ TBG := tbt_5 (List.mem_of_getElem? (i := 168) rfl) rfl
theorem q858 : (.code yX8_weight cX8_weight 2 (some .int) : Cond) ∈ TBG := tbt_5 (List.mem_of_getElem? (i := 169) rfl) rfl
theorem q859 : (.methodLink RL 163 yX8_cost : Cond) ∈ TBG := tbt_5 (List.mem_of_getElem? (i := 170) rfl) rfl
theorem q860 : (.instanceMethod yX8_cost : Cond) ∈ TBG := tbt_5 (List.mem_of_getElem? (i := 171) rfl) rfl
theorem q861 : (.selects RX8 yX8_cost yX8_cost : Cond) ∈ TBG := tbt_5 (List.mem_of_getElem? (i := 172) rfl) rfl
theorem q862 : (.code yX8_cost cX8_cost 3 (some .int) : Cond) ∈ TBG := tbt_5 (List.mem_of_getElem? (i := 173) rfl) rfl
theorem q863 : (.methodLink RX8 199 yX8_isParts : Cond) ∈ TBG := tbt_5 (List.mem_of_getElem? (i := 174) rfl) rfl
theorem q864 : (.instanceMethod yX8_isParts : Cond) ∈ TBG := tbt_5 (List.mem_of_getElem? (i := 176) rfl) rfl
theorem q865 : (.code yX8_isParts cX8_isParts 2 (some .boolean) : Cond) ∈ TBG := tbt_5 (List.mem_of_getElem? (i := 177) rfl) rfl
theorem q866 : (.methodLink RX8 202 yX8_leastCost : Cond) ∈ TBG := tbt_5 (List.mem_of_getElem? (i := 178) rfl) rfl
theorem q867 : (.instanceMethod yX8_leastCost : Cond) ∈ TBG := tbt_5 (List.mem_of_getElem? (i := 180) rfl) rfl
theorem q868 : (.code yX8_leastCost cX8_leastCost 2 (some .int) : Cond) ∈ TBG := tbt_5 (List.mem_of_getElem? (i := 181) rfl) rfl
theorem q869 : (.methodLink RX8 196 yX8_cuts : Cond) ∈ TBG := tbt_5 (List.mem_of_getElem? (i := 182) rfl) rfl
theorem q870 : (.instanceMethod yX8_cuts : Cond) ∈ TBG := tbt_5 (List.mem_of_getElem? (i := 184) rfl) rfl
theorem q871 : (.code yX8_cuts cX8_cuts 3 none : Cond) ∈ TBG := tbt_5 (List.mem_of_getElem? (i := 185) rfl) rfl
theorem q872 : (.methodLink RX8 192 yX8_part : Cond) ∈ TBG := tbt_5 (List.mem_of_getElem? (i := 186) rfl) rfl
theorem q873 : (.instanceMethod yX8_part : Cond) ∈ TBG := tbt_5 (List.mem_of_getElem? (i := 188) rfl) rfl
theorem q874 : (.code yX8_part cX8_part 8 none : Cond) ∈ TBG := tbt_5 (List.mem_of_getElem? (i := 189) rfl) rfl
theorem q875 : (.methodLink RL 166 yX8_cut : Cond) ∈ TBG := tbt_5 (List.mem_of_getElem? (i := 190) rfl) rfl
theorem q876 : (.instanceMethod yX8_cut : Cond) ∈ TBG := tbt_5 (List.mem_of_getElem? (i := 191) rfl) rfl
theorem q877 : (.selects RX8 yX8_cut yX8_cut : Cond) ∈ TBG := tbt_5 (List.mem_of_getElem? (i := 192) rfl) rfl
theorem q878 : (.code yX8_cut cX8_cut 3 (some .int) : Cond) ∈ TBG := tbt_5 (List.mem_of_getElem? (i := 193) rfl) rfl
theorem q879 : (.methodLink RX8 205 yX8_cutAt : Cond) ∈ TBG := tbt_5 (List.mem_of_getElem? (i := 194) rfl) rfl
theorem q880 : (.instanceMethod yX8_cutAt : Cond) ∈ TBG := tbt_5 (List.mem_of_getElem? (i := 196) rfl) rfl
theorem q881 : (.code yX8_cutAt cX8_cutAt 5 (some .int) : Cond) ∈ TBG := tbt_5 (List.mem_of_getElem? (i := 197) rfl) rfl
theorem q882 : (.methodLink RL 169 yX8_fewestParts : Cond) ∈ TBG := tbt_5 (List.mem_of_getElem? (i := 198) rfl) rfl
theorem q883 : (.instanceMethod yX8_fewestParts : Cond) ∈ TBG := tbt_5 (List.mem_of_getElem? (i := 199) rfl) rfl
theorem q884 : (.selects RX8 yX8_fewestParts yX8_fewestParts : Cond) ∈ TBG := tbt_5 (List.mem_of_getElem? (i := 200) rfl) rfl
theorem q885 : (.code yX8_fewestParts cX8_fewestParts 2 (some .int) : Cond) ∈ TBG := tbt_5 (List.mem_of_getElem? (i := 201) rfl) rfl
theorem q886 : (.constant RX8 208 (999999) : Cond) ∈ TBG := tbt_5 (List.mem_of_getElem? (i := 202) rfl) rfl
theorem q887 : (.methodLink RX8 209 yX8_fewest : Cond) ∈ TBG := tbt_5 (List.mem_of_getElem? (i := 203) rfl) rfl
theorem q888 : (.instanceMethod yX8_fewest : Cond) ∈ TBG := tbt_5 (List.mem_of_getElem? (i := 205) rfl) rfl
theorem q889 : (.code yX8_fewest cX8_fewest 3 (some .int) : Cond) ∈ TBG := tbt_5 (List.mem_of_getElem? (i := 206) rfl) rfl
theorem q890 : (.methodLink RL 174 yX8_halfShare : Cond) ∈ TBG := tbt_5 (List.mem_of_getElem? (i := 207) rfl) rfl
theorem q891 : (.instanceMethod yX8_halfShare : Cond) ∈ TBG := tbt_5 (List.mem_of_getElem? (i := 208) rfl) rfl
theorem q892 : (.selects RX8 yX8_halfShare yX8_halfShare : Cond) ∈ TBG := tbt_5 (List.mem_of_getElem? (i := 209) rfl) rfl
theorem q893 : (.code yX8_halfShare cX8_halfShare 1 (some .double) : Cond) ∈ TBG := tbt_5 (List.mem_of_getElem? (i := 210) rfl) rfl
theorem q894 : (.methodLink RX8 212 yX8_share : Cond) ∈ TBG := tbt_5 (List.mem_of_getElem? (i := 211) rfl) rfl
theorem q895 : (.instanceMethod yX8_share : Cond) ∈ TBG := tbt_5 (List.mem_of_getElem? (i := 213) rfl) rfl
theorem q896 : (.code yX8_share cX8_share 4 (some .double) : Cond) ∈ TBG := tbt_5 (List.mem_of_getElem? (i := 214) rfl) rfl
theorem q897 : (.methodLink RL 179 yX8_digest : Cond) ∈ TBG := tbt_5 (List.mem_of_getElem? (i := 215) rfl) rfl
theorem q898 : (.instanceMethod yX8_digest : Cond) ∈ TBG := tbt_5 (List.mem_of_getElem? (i := 216) rfl) rfl
theorem q899 : (.selects RX8 yX8_digest yX8_digest : Cond) ∈ TBG := tbt_5 (List.mem_of_getElem? (i := 217) rfl) rfl
theorem q900 : (.code yX8_digest cX8_digest 2 (some .long) : Cond) ∈ TBG := tbt_5 (List.mem_of_getElem? (i := 218) rfl) rfl
theorem q901 : (.constantLong RX8 226 (3613) : Cond) ∈ TBG := tbt_5 (List.mem_of_getElem? (i := 219) rfl) rfl
theorem q902 : (.methodLink RX8 222 yX8_mixes : Cond) ∈ TBG := tbt_5 (List.mem_of_getElem? (i := 220) rfl) rfl
theorem q903 : (.instanceMethod yX8_mixes : Cond) ∈ TBG := tbt_5 (List.mem_of_getElem? (i := 222) rfl) rfl
theorem q904 : (.code yX8_mixes cX8_mixes 3 none : Cond) ∈ TBG := tbt_5 (List.mem_of_getElem? (i := 223) rfl) rfl
theorem q905 : (.constantLong RX8 216 (31) : Cond) ∈ TBG := tbt_5 (List.mem_of_getElem? (i := 224) rfl) rfl
theorem q906 : (.methodLink RX8 228 yX8_mixesTable : Cond) ∈ TBG := tbt_5 (List.mem_of_getElem? (i := 225) rfl) rfl
theorem q907 : (.instanceMethod yX8_mixesTable : Cond) ∈ TBG := tbt_5 (List.mem_of_getElem? (i := 227) rfl) rfl
theorem q908 : (.code yX8_mixesTable cX8_mixesTable 2 none : Cond) ∈ TBG := tbt_5 (List.mem_of_getElem? (i := 228) rfl) rfl
theorem q909 : (.methodLink RX8 231 yX8_mixesCuts : Cond) ∈ TBG := tbt_5 (List.mem_of_getElem? (i := 229) rfl) rfl
theorem q910 : (.instanceMethod yX8_mixesCuts : Cond) ∈ TBG := tbt_5 (List.mem_of_getElem? (i := 231) rfl) rfl
theorem q911 : (.code yX8_mixesCuts cX8_mixesCuts 3 none : Cond) ∈ TBG := tbt_5 (List.mem_of_getElem? (i := 232) rfl) rfl
theorem q912 : (.methodLink RX8 234 yJxe99ae_doubleToLongBits_ccdee : Cond) ∈ TBG := tbt_5 (List.mem_of_getElem? (i := 233) rfl) rfl
theorem q913 : (.static yJxe99ae_doubleToLongBits_ccdee : Cond) ∈ TBG := tbt_5 (List.mem_of_getElem? (i := 234) rfl) rfl
theorem q914 : (.code yJxe99ae_doubleToLongBits_ccdee cJxe99ae_doubleToLongBits_ccdee 2 (some .long) : Cond) ∈ TBG := tbt_5 (List.mem_of_getElem? (i := 235) rfl) rfl
theorem q915 : (.methodLink RJxe99ae 122 yJxe99ae_isNaN_b9ae7 : Cond) ∈ TBG := tbt_5 (List.mem_of_getElem? (i := 236) rfl) rfl
theorem q916 : (.static yJxe99ae_isNaN_b9ae7 : Cond) ∈ TBG := tbt_5 (List.mem_of_getElem? (i := 237) rfl) rfl
theorem q917 : (.code yJxe99ae_isNaN_b9ae7 cJxe99ae_isNaN_b9ae7 2 (some .boolean) : Cond) ∈ TBG := tbt_5 (List.mem_of_getElem? (i := 238) rfl) rfl
theorem q918 : (.methodLink RJxe99ae 134 (⟨RJxe99ae, "doubleToRawLongBits", "(D)J"⟩ : MethodName) : Cond) ∈ TBG := tbt_5 (List.mem_of_getElem? (i := 239) rfl) rfl
theorem q919 : (.static (⟨RJxe99ae, "doubleToRawLongBits", "(D)J"⟩ : MethodName) : Cond) ∈ TBG := tbt_6 (List.mem_of_getElem? (i := 0) rfl) rfl
theorem q920 : (.constantLong RJxe99ae 137 (9221120237041090560) : Cond) ∈ TBG := tbt_6 (List.mem_of_getElem? (i := 2) rfl) rfl
theorem q921 : (.arrayClass .long : Cond) ∈ TBG := tbt_6 (List.mem_of_getElem? (i := 3) rfl) rfl
theorem q922 : (.selects RX2 yX2_stateAt yX2_stateAt : Cond) ∈ TBG := tbs (List.mem_of_getElem? (i := 0) rfl) rfl
theorem q923 : (.selects RX3 yX3_isGreater yX3_isGreater : Cond) ∈ TBG := tbs (List.mem_of_getElem? (i := 1) rfl) rfl
theorem q924 : (.selects RX3 yX3_note yX3_note : Cond) ∈ TBG := tbs (List.mem_of_getElem? (i := 2) rfl) rfl
theorem q925 : (.selects RX6 yX6_takes yX6_takes : Cond) ∈ TBG := tbs (List.mem_of_getElem? (i := 3) rfl) rfl
theorem q926 : (.selects RX6 yX6_takesDigit yX6_takesDigit : Cond) ∈ TBG := tbs (List.mem_of_getElem? (i := 4) rfl) rfl
theorem q927 : (.selects RX6 yX6_takesComma yX6_takesComma : Cond) ∈ TBG := tbs (List.mem_of_getElem? (i := 5) rfl) rfl
theorem q928 : (.selects RX6 yX6_takesSlash yX6_takesSlash : Cond) ∈ TBG := tbs (List.mem_of_getElem? (i := 6) rfl) rfl
theorem q929 : (.selects RX6 yX6_isRowFull yX6_isRowFull : Cond) ∈ TBG := tbs (List.mem_of_getElem? (i := 7) rfl) rfl
theorem q930 : (.selects RX1 yX1_leaveAllColumns yX1_leaveAllColumns : Cond) ∈ TBG := tbs (List.mem_of_getElem? (i := 8) rfl) rfl
theorem q931 : (.selects RX1 yX1_leftmostLeast yX1_leftmostLeast : Cond) ∈ TBG := tbs (List.mem_of_getElem? (i := 9) rfl) rfl
theorem q932 : (.selects RX1 yX1_columnLeft yX1_columnLeft : Cond) ∈ TBG := tbs (List.mem_of_getElem? (i := 10) rfl) rfl
theorem q933 : (.selects RX1 yX1_look yX1_look : Cond) ∈ TBG := tbs (List.mem_of_getElem? (i := 11) rfl) rfl
theorem q934 : (.selects RX1 yX1_setPlace yX1_setPlace : Cond) ∈ TBG := tbs (List.mem_of_getElem? (i := 12) rfl) rfl
theorem q935 : (.selects RX1 yX1_pileColumns yX1_pileColumns : Cond) ∈ TBG := tbs (List.mem_of_getElem? (i := 13) rfl) rfl
theorem q936 : (.selects RX1 yX1_rowsAt yX1_rowsAt : Cond) ∈ TBG := tbs (List.mem_of_getElem? (i := 14) rfl) rfl
theorem q937 : (.selects RX1 yX1_heightAfterThrowing yX1_heightAfterThrowing : Cond) ∈ TBG := tbs (List.mem_of_getElem? (i := 15) rfl) rfl
theorem q938 : (.selects RX1 yX1_rowAt yX1_rowAt : Cond) ∈ TBG := tbs (List.mem_of_getElem? (i := 16) rfl) rfl
theorem q939 : (.selects RX1 yX1_fillBetween yX1_fillBetween : Cond) ∈ TBG := tbs (List.mem_of_getElem? (i := 17) rfl) rfl
theorem q940 : (.selects RX1 yX1_lookAtAll yX1_lookAtAll : Cond) ∈ TBG := tbs (List.mem_of_getElem? (i := 18) rfl) rfl
theorem q941 : (.selects RX7 yX7_counted yX7_counted : Cond) ∈ TBG := tbs (List.mem_of_getElem? (i := 19) rfl) rfl
theorem q942 : (.selects RX7 yX7_mixedCells yX7_mixedCells : Cond) ∈ TBG := tbs (List.mem_of_getElem? (i := 20) rfl) rfl
theorem q943 : (.selects RX7 yX7_seekByAllWays yX7_seekByAllWays : Cond) ∈ TBG := tbs (List.mem_of_getElem? (i := 21) rfl) rfl
theorem q944 : (.selects RX7 yX7_mixedPlaces yX7_mixedPlaces : Cond) ∈ TBG := tbs (List.mem_of_getElem? (i := 22) rfl) rfl
theorem q945 : (.selects RX7 yX7_mixedWeights yX7_mixedWeights : Cond) ∈ TBG := tbs (List.mem_of_getElem? (i := 23) rfl) rfl
theorem q946 : (.selects RX0 yX0_planLastCut yX0_planLastCut : Cond) ∈ TBG := tbs (List.mem_of_getElem? (i := 24) rfl) rfl
theorem q947 : (.selects "java/lang/Throwable" (⟨"java/lang/Throwable", "fillInStackTrace", "(I)Ljava/lang/Throwable;"⟩ : MethodName) (⟨"java/lang/Throwable", "fillInStackTrace", "(I)Ljava/lang/Throwable;"⟩ : MethodName) : Cond) ∈ TBG := tbs (List.mem_of_getElem? (i := 25) rfl) rfl
theorem q948 : (.selects RX7 yX7_isOpen yX7_isOpen : Cond) ∈ TBG := tbs (List.mem_of_getElem? (i := 26) rfl) rfl
theorem q949 : (.selects RX7 yX7_slotAt yX7_slotAt : Cond) ∈ TBG := tbs (List.mem_of_getElem? (i := 27) rfl) rfl
theorem q950 : (.selects RX8 yX8_refuses yX8_refuses : Cond) ∈ TBG := tbs (List.mem_of_getElem? (i := 28) rfl) rfl
theorem q951 : (.selects RX8 yX8_saves yX8_saves : Cond) ∈ TBG := tbs (List.mem_of_getElem? (i := 29) rfl) rfl
theorem q952 : (.selects RX8 yX8_isCell yX8_isCell : Cond) ∈ TBG := tbs (List.mem_of_getElem? (i := 30) rfl) rfl
theorem q953 : (.selects RX8 yX8_isRow yX8_isRow : Cond) ∈ TBG := tbs (List.mem_of_getElem? (i := 31) rfl) rfl
theorem q954 : (.selects RX8 yX8_at yX8_at : Cond) ∈ TBG := tbs (List.mem_of_getElem? (i := 32) rfl) rfl
theorem q955 : (.selects RX8 yX8_becomes yX8_becomes : Cond) ∈ TBG := tbs (List.mem_of_getElem? (i := 33) rfl) rfl
theorem q956 : (.selects RX8 yX8_isKeeping yX8_isKeeping : Cond) ∈ TBG := tbs (List.mem_of_getElem? (i := 34) rfl) rfl
theorem q957 : (.selects RX8 yX8_first yX8_first : Cond) ∈ TBG := tbs (List.mem_of_getElem? (i := 35) rfl) rfl
theorem q958 : (.selects RX8 yX8_isAgainst yX8_isAgainst : Cond) ∈ TBG := tbs (List.mem_of_getElem? (i := 36) rfl) rfl
theorem q959 : (.selects RX8 yX8_canGo yX8_canGo : Cond) ∈ TBG := tbs (List.mem_of_getElem? (i := 37) rfl) rfl
theorem q960 : (.selects RX8 yX8_finds yX8_finds : Cond) ∈ TBG := tbs (List.mem_of_getElem? (i := 38) rfl) rfl
theorem q961 : (.selects RX8 yX8_byAll yX8_byAll : Cond) ∈ TBG := tbs (List.mem_of_getElem? (i := 39) rfl) rfl
theorem q962 : (.selects RX8 yX8_least yX8_least : Cond) ∈ TBG := tbs (List.mem_of_getElem? (i := 40) rfl) rfl
theorem q963 : (.selects RX8 yX8_byHalves yX8_byHalves : Cond) ∈ TBG := tbs (List.mem_of_getElem? (i := 41) rfl) rfl
theorem q964 : (.selects RX8 yX8_opens yX8_opens : Cond) ∈ TBG := tbs (List.mem_of_getElem? (i := 42) rfl) rfl
theorem q965 : (.selects RX8 yX8_byThrowing yX8_byThrowing : Cond) ∈ TBG := tbs (List.mem_of_getElem? (i := 43) rfl) rfl
theorem q966 : (.selects RX8 yX8_throwsOut yX8_throwsOut : Cond) ∈ TBG := tbs (List.mem_of_getElem? (i := 44) rfl) rfl
theorem q967 : (.selects RX8 yX8_piles yX8_piles : Cond) ∈ TBG := tbs (List.mem_of_getElem? (i := 45) rfl) rfl
theorem q968 : (.selects RX8 yX8_fills yX8_fills : Cond) ∈ TBG := tbs (List.mem_of_getElem? (i := 46) rfl) rfl
theorem q969 : (.selects RX8 yX8_leastLeft yX8_leastLeft : Cond) ∈ TBG := tbs (List.mem_of_getElem? (i := 47) rfl) rfl
theorem q970 : (.selects RX8 yX8_isWhole yX8_isWhole : Cond) ∈ TBG := tbs (List.mem_of_getElem? (i := 48) rfl) rfl
theorem q971 : (.selects RX8 yX8_isLine yX8_isLine : Cond) ∈ TBG := tbs (List.mem_of_getElem? (i := 49) rfl) rfl
theorem q972 : (.selects RX8 yX8_isNumber yX8_isNumber : Cond) ∈ TBG := tbs (List.mem_of_getElem? (i := 50) rfl) rfl
theorem q973 : (.selects RX8 yX8_sees yX8_sees : Cond) ∈ TBG := tbs (List.mem_of_getElem? (i := 51) rfl) rfl
theorem q974 : (.selects RX8 yX8_takes yX8_takes : Cond) ∈ TBG := tbs (List.mem_of_getElem? (i := 52) rfl) rfl
theorem q975 : (.selects RX8 yX8_placeBy yX8_placeBy : Cond) ∈ TBG := tbs (List.mem_of_getElem? (i := 53) rfl) rfl
theorem q976 : (.selects RX8 yX8_looksBy yX8_looksBy : Cond) ∈ TBG := tbs (List.mem_of_getElem? (i := 54) rfl) rfl
theorem q977 : (.selects RX8 yX8_bounds yX8_bounds : Cond) ∈ TBG := tbs (List.mem_of_getElem? (i := 55) rfl) rfl
theorem q978 : (.selects RX8 yX8_testified yX8_testified : Cond) ∈ TBG := tbs (List.mem_of_getElem? (i := 56) rfl) rfl
theorem q979 : (.selects RX8 yX8_witnesses yX8_witnesses : Cond) ∈ TBG := tbs (List.mem_of_getElem? (i := 57) rfl) rfl
theorem q980 : (.selects RX8 yX8_counted yX8_counted : Cond) ∈ TBG := tbs (List.mem_of_getElem? (i := 58) rfl) rfl
theorem q981 : (.selects RX8 yX8_weighs yX8_weighs : Cond) ∈ TBG := tbs (List.mem_of_getElem? (i := 59) rfl) rfl
theorem q982 : (.selects RX8 yX8_goingBack yX8_goingBack : Cond) ∈ TBG := tbs (List.mem_of_getElem? (i := 60) rfl) rfl
theorem q983 : (.selects RX8 yX8_isParts yX8_isParts : Cond) ∈ TBG := tbs (List.mem_of_getElem? (i := 61) rfl) rfl
theorem q984 : (.selects RX8 yX8_leastCost yX8_leastCost : Cond) ∈ TBG := tbs (List.mem_of_getElem? (i := 62) rfl) rfl
theorem q985 : (.selects RX8 yX8_cuts yX8_cuts : Cond) ∈ TBG := tbs (List.mem_of_getElem? (i := 63) rfl) rfl
theorem q986 : (.selects RX8 yX8_part yX8_part : Cond) ∈ TBG := tbs (List.mem_of_getElem? (i := 64) rfl) rfl
theorem q987 : (.selects RX8 yX8_cutAt yX8_cutAt : Cond) ∈ TBG := tbs (List.mem_of_getElem? (i := 65) rfl) rfl
theorem q988 : (.selects RX8 yX8_fewest yX8_fewest : Cond) ∈ TBG := tbs (List.mem_of_getElem? (i := 66) rfl) rfl
theorem q989 : (.selects RX8 yX8_share yX8_share : Cond) ∈ TBG := tbs (List.mem_of_getElem? (i := 67) rfl) rfl
theorem q990 : (.selects RX8 yX8_mixes yX8_mixes : Cond) ∈ TBG := tbs (List.mem_of_getElem? (i := 68) rfl) rfl
theorem q991 : (.selects RX8 yX8_mixesTable yX8_mixesTable : Cond) ∈ TBG := tbs (List.mem_of_getElem? (i := 69) rfl) rfl
theorem q992 : (.selects RX8 yX8_mixesCuts yX8_mixesCuts : Cond) ∈ TBG := tbs (List.mem_of_getElem? (i := 70) rfl) rfl
def NWL : List Cond := [.methodLinkNest RX5 37 yX7_setIn RX7, .methodLinkNest RX7 41 yX6_init RX7, .methodLinkNest RX7 55 yX4_init RX7, .methodLinkNest RX5 53 yX7_copyAll RX7, .methodLinkNest RX6 41 yX7_numberIn RX7, .methodLinkNest RX6 61 yX7_isFromTo RX7, .methodLinkNest RX6 37 yX7_setIn RX7, .methodLinkNest RX1 60 yX7_setIn RX7, .methodLinkNest RX1 64 yX7_numberIn RX7, .methodLinkNest RX1 100 yX7_isFromTo RX7, .methodLinkNest RX5 45 yX7_numberIn RX7, .methodLinkNest RX0 38 yX7_setIn RX7, .methodLinkNest RX0 46 yX7_numberIn RX7, .methodLinkNest RX5 41 yX7_isFromTo RX7]
theorem NWL_in : ∀ w ∈ NWL, w ∈ lw_tbl := List.forall_mem_cons.mpr ⟨q32, List.forall_mem_cons.mpr ⟨q96, List.forall_mem_cons.mpr ⟨q123, List.forall_mem_cons.mpr ⟨q156, List.forall_mem_cons.mpr ⟨q198, List.forall_mem_cons.mpr ⟨q204, List.forall_mem_cons.mpr ⟨q210, List.forall_mem_cons.mpr ⟨q240, List.forall_mem_cons.mpr ⟨q247, List.forall_mem_cons.mpr ⟨q251, List.forall_mem_cons.mpr ⟨q305, List.forall_mem_cons.mpr ⟨q343, List.forall_mem_cons.mpr ⟨q348, List.forall_mem_cons.mpr ⟨q446, fun _ h => absurd h List.not_mem_nil⟩⟩⟩⟩⟩⟩⟩⟩⟩⟩⟩⟩⟩⟩
theorem nw0 : (.methodLinkNest RX5 37 yX7_setIn RX7 : Cond) ∈ NWL := List.mem_of_getElem? (i := 0) rfl
theorem nw1 : (.methodLinkNest RX7 41 yX6_init RX7 : Cond) ∈ NWL := List.mem_of_getElem? (i := 1) rfl
theorem nw2 : (.methodLinkNest RX7 55 yX4_init RX7 : Cond) ∈ NWL := List.mem_of_getElem? (i := 2) rfl
theorem nw3 : (.methodLinkNest RX5 53 yX7_copyAll RX7 : Cond) ∈ NWL := List.mem_of_getElem? (i := 3) rfl
theorem nw4 : (.methodLinkNest RX6 41 yX7_numberIn RX7 : Cond) ∈ NWL := List.mem_of_getElem? (i := 4) rfl
theorem nw5 : (.methodLinkNest RX6 61 yX7_isFromTo RX7 : Cond) ∈ NWL := List.mem_of_getElem? (i := 5) rfl
theorem nw6 : (.methodLinkNest RX6 37 yX7_setIn RX7 : Cond) ∈ NWL := List.mem_of_getElem? (i := 6) rfl
theorem nw7 : (.methodLinkNest RX1 60 yX7_setIn RX7 : Cond) ∈ NWL := List.mem_of_getElem? (i := 7) rfl
theorem nw8 : (.methodLinkNest RX1 64 yX7_numberIn RX7 : Cond) ∈ NWL := List.mem_of_getElem? (i := 8) rfl
theorem nw9 : (.methodLinkNest RX1 100 yX7_isFromTo RX7 : Cond) ∈ NWL := List.mem_of_getElem? (i := 9) rfl
theorem nw10 : (.methodLinkNest RX5 45 yX7_numberIn RX7 : Cond) ∈ NWL := List.mem_of_getElem? (i := 10) rfl
theorem nw11 : (.methodLinkNest RX0 38 yX7_setIn RX7 : Cond) ∈ NWL := List.mem_of_getElem? (i := 11) rfl
theorem nw12 : (.methodLinkNest RX0 46 yX7_numberIn RX7 : Cond) ∈ NWL := List.mem_of_getElem? (i := 12) rfl
theorem nw13 : (.methodLinkNest RX5 41 yX7_isFromTo RX7 : Cond) ∈ NWL := List.mem_of_getElem? (i := 13) rfl
theorem ly0_0 : u_lay RX0 TX0 0 ∈ TBG := tbt_1 (List.mem_of_getElem? (i := 137) rfl) rfl
theorem ly0_1 : u_lay RX0 TX0 1 ∈ TBG := tbt_1 (List.mem_of_getElem? (i := 139) rfl) rfl
theorem ly0_2 : u_lay RX0 TX0 2 ∈ TBG := tbt_1 (List.mem_of_getElem? (i := 141) rfl) rfl
theorem ly0_3 : u_lay RX0 TX0 3 ∈ TBG := tbt_1 (List.mem_of_getElem? (i := 143) rfl) rfl
theorem ly0_4 : u_lay RX0 TX0 4 ∈ TBG := tbt_1 (List.mem_of_getElem? (i := 145) rfl) rfl
theorem ixX0 : ∀ w ∈ u_ws RX0 TX0 5, w ∈ TBG := by
  show ∀ w ∈ [u_lay RX0 TX0 0, u_lay RX0 TX0 1, u_lay RX0 TX0 2, u_lay RX0 TX0 3, u_lay RX0 TX0 4], w ∈ TBG
  exact List.forall_mem_cons.mpr ⟨ly0_0, List.forall_mem_cons.mpr ⟨ly0_1, List.forall_mem_cons.mpr ⟨ly0_2, List.forall_mem_cons.mpr ⟨ly0_3, List.forall_mem_cons.mpr ⟨ly0_4, fun _ h => absurd h List.not_mem_nil⟩⟩⟩⟩⟩
theorem ly1_0 : u_lay RX1 TX1 0 ∈ TBG := tbt_1 (List.mem_of_getElem? (i := 111) rfl) rfl
theorem ly1_1 : u_lay RX1 TX1 1 ∈ TBG := tbt_1 (List.mem_of_getElem? (i := 113) rfl) rfl
theorem ly1_2 : u_lay RX1 TX1 2 ∈ TBG := tbt_1 (List.mem_of_getElem? (i := 115) rfl) rfl
theorem ly1_3 : u_lay RX1 TX1 3 ∈ TBG := tbt_1 (List.mem_of_getElem? (i := 117) rfl) rfl
theorem ly1_4 : u_lay RX1 TX1 4 ∈ TBG := tbt_1 (List.mem_of_getElem? (i := 119) rfl) rfl
theorem ly1_5 : u_lay RX1 TX1 5 ∈ TBG := tbt_1 (List.mem_of_getElem? (i := 121) rfl) rfl
theorem ly1_6 : u_lay RX1 TX1 6 ∈ TBG := tbt_1 (List.mem_of_getElem? (i := 123) rfl) rfl
theorem ixX1 : ∀ w ∈ u_ws RX1 TX1 7, w ∈ TBG := by
  show ∀ w ∈ [u_lay RX1 TX1 0, u_lay RX1 TX1 1, u_lay RX1 TX1 2, u_lay RX1 TX1 3, u_lay RX1 TX1 4, u_lay RX1 TX1 5, u_lay RX1 TX1 6], w ∈ TBG
  exact List.forall_mem_cons.mpr ⟨ly1_0, List.forall_mem_cons.mpr ⟨ly1_1, List.forall_mem_cons.mpr ⟨ly1_2, List.forall_mem_cons.mpr ⟨ly1_3, List.forall_mem_cons.mpr ⟨ly1_4, List.forall_mem_cons.mpr ⟨ly1_5, List.forall_mem_cons.mpr ⟨ly1_6, fun _ h => absurd h List.not_mem_nil⟩⟩⟩⟩⟩⟩⟩
theorem ly2_0 : u_lay RX2 TX2 0 ∈ TBG := tbt_1 (List.mem_of_getElem? (i := 193) rfl) rfl
theorem ly2_1 : u_lay RX2 TX2 1 ∈ TBG := tbt_1 (List.mem_of_getElem? (i := 195) rfl) rfl
theorem ly2_2 : u_lay RX2 TX2 2 ∈ TBG := tbt_1 (List.mem_of_getElem? (i := 197) rfl) rfl
theorem ixX2 : ∀ w ∈ u_ws RX2 TX2 3, w ∈ TBG := by
  show ∀ w ∈ [u_lay RX2 TX2 0, u_lay RX2 TX2 1, u_lay RX2 TX2 2], w ∈ TBG
  exact List.forall_mem_cons.mpr ⟨ly2_0, List.forall_mem_cons.mpr ⟨ly2_1, List.forall_mem_cons.mpr ⟨ly2_2, fun _ h => absurd h List.not_mem_nil⟩⟩⟩
theorem ly3_0 : u_lay RX3 TX3 0 ∈ TBG := tbt_1 (List.mem_of_getElem? (i := 87) rfl) rfl
theorem ly3_1 : u_lay RX3 TX3 1 ∈ TBG := tbt_1 (List.mem_of_getElem? (i := 89) rfl) rfl
theorem ly3_2 : u_lay RX3 TX3 2 ∈ TBG := tbt_1 (List.mem_of_getElem? (i := 91) rfl) rfl
theorem ly3_3 : u_lay RX3 TX3 3 ∈ TBG := tbt_1 (List.mem_of_getElem? (i := 93) rfl) rfl
theorem ly3_4 : u_lay RX3 TX3 4 ∈ TBG := tbt_1 (List.mem_of_getElem? (i := 95) rfl) rfl
theorem ixX3 : ∀ w ∈ u_ws RX3 TX3 5, w ∈ TBG := by
  show ∀ w ∈ [u_lay RX3 TX3 0, u_lay RX3 TX3 1, u_lay RX3 TX3 2, u_lay RX3 TX3 3, u_lay RX3 TX3 4], w ∈ TBG
  exact List.forall_mem_cons.mpr ⟨ly3_0, List.forall_mem_cons.mpr ⟨ly3_1, List.forall_mem_cons.mpr ⟨ly3_2, List.forall_mem_cons.mpr ⟨ly3_3, List.forall_mem_cons.mpr ⟨ly3_4, fun _ h => absurd h List.not_mem_nil⟩⟩⟩⟩⟩
theorem ly4_0 : u_lay RX4 TX4 0 ∈ TBG := tbt_1 (List.mem_of_getElem? (i := 212) rfl) rfl
theorem ly4_1 : u_lay RX4 TX4 1 ∈ TBG := tbt_1 (List.mem_of_getElem? (i := 214) rfl) rfl
theorem ixX4 : ∀ w ∈ u_ws RX4 TX4 2, w ∈ TBG := by
  show ∀ w ∈ [u_lay RX4 TX4 0, u_lay RX4 TX4 1], w ∈ TBG
  exact List.forall_mem_cons.mpr ⟨ly4_0, List.forall_mem_cons.mpr ⟨ly4_1, fun _ h => absurd h List.not_mem_nil⟩⟩
theorem ly5_0 : u_lay RX5 TX5 0 ∈ TBG := tbt_1 (List.mem_of_getElem? (i := 54) rfl) rfl
theorem ly5_1 : u_lay RX5 TX5 1 ∈ TBG := tbt_1 (List.mem_of_getElem? (i := 56) rfl) rfl
theorem ly5_2 : u_lay RX5 TX5 2 ∈ TBG := tbt_1 (List.mem_of_getElem? (i := 58) rfl) rfl
theorem ly5_3 : u_lay RX5 TX5 3 ∈ TBG := tbt_1 (List.mem_of_getElem? (i := 60) rfl) rfl
theorem ly5_4 : u_lay RX5 TX5 4 ∈ TBG := tbt_1 (List.mem_of_getElem? (i := 62) rfl) rfl
theorem ly5_5 : u_lay RX5 TX5 5 ∈ TBG := tbt_1 (List.mem_of_getElem? (i := 64) rfl) rfl
theorem ly5_6 : u_lay RX5 TX5 6 ∈ TBG := tbt_1 (List.mem_of_getElem? (i := 66) rfl) rfl
theorem ly5_7 : u_lay RX5 TX5 7 ∈ TBG := tbt_1 (List.mem_of_getElem? (i := 68) rfl) rfl
theorem ixX5 : ∀ w ∈ u_ws RX5 TX5 8, w ∈ TBG := by
  show ∀ w ∈ [u_lay RX5 TX5 0, u_lay RX5 TX5 1, u_lay RX5 TX5 2, u_lay RX5 TX5 3, u_lay RX5 TX5 4, u_lay RX5 TX5 5, u_lay RX5 TX5 6, u_lay RX5 TX5 7], w ∈ TBG
  exact List.forall_mem_cons.mpr ⟨ly5_0, List.forall_mem_cons.mpr ⟨ly5_1, List.forall_mem_cons.mpr ⟨ly5_2, List.forall_mem_cons.mpr ⟨ly5_3, List.forall_mem_cons.mpr ⟨ly5_4, List.forall_mem_cons.mpr ⟨ly5_5, List.forall_mem_cons.mpr ⟨ly5_6, List.forall_mem_cons.mpr ⟨ly5_7, fun _ h => absurd h List.not_mem_nil⟩⟩⟩⟩⟩⟩⟩⟩
theorem ly6_0 : u_lay RX6 TX6 0 ∈ TBG := tbt_1 (List.mem_of_getElem? (i := 163) rfl) rfl
theorem ly6_1 : u_lay RX6 TX6 1 ∈ TBG := tbt_1 (List.mem_of_getElem? (i := 165) rfl) rfl
theorem ly6_2 : u_lay RX6 TX6 2 ∈ TBG := tbt_1 (List.mem_of_getElem? (i := 167) rfl) rfl
theorem ly6_3 : u_lay RX6 TX6 3 ∈ TBG := tbt_1 (List.mem_of_getElem? (i := 169) rfl) rfl
theorem ly6_4 : u_lay RX6 TX6 4 ∈ TBG := tbt_1 (List.mem_of_getElem? (i := 171) rfl) rfl
theorem ly6_5 : u_lay RX6 TX6 5 ∈ TBG := tbt_1 (List.mem_of_getElem? (i := 173) rfl) rfl
theorem ly6_6 : u_lay RX6 TX6 6 ∈ TBG := tbt_1 (List.mem_of_getElem? (i := 175) rfl) rfl
theorem ly6_7 : u_lay RX6 TX6 7 ∈ TBG := tbt_1 (List.mem_of_getElem? (i := 177) rfl) rfl
theorem ixX6 : ∀ w ∈ u_ws RX6 TX6 8, w ∈ TBG := by
  show ∀ w ∈ [u_lay RX6 TX6 0, u_lay RX6 TX6 1, u_lay RX6 TX6 2, u_lay RX6 TX6 3, u_lay RX6 TX6 4, u_lay RX6 TX6 5, u_lay RX6 TX6 6, u_lay RX6 TX6 7], w ∈ TBG
  exact List.forall_mem_cons.mpr ⟨ly6_0, List.forall_mem_cons.mpr ⟨ly6_1, List.forall_mem_cons.mpr ⟨ly6_2, List.forall_mem_cons.mpr ⟨ly6_3, List.forall_mem_cons.mpr ⟨ly6_4, List.forall_mem_cons.mpr ⟨ly6_5, List.forall_mem_cons.mpr ⟨ly6_6, List.forall_mem_cons.mpr ⟨ly6_7, fun _ h => absurd h List.not_mem_nil⟩⟩⟩⟩⟩⟩⟩⟩
theorem ly7_0 : u_lay RX7 TX7 0 ∈ TBG := tbt_1 (List.mem_of_getElem? (i := 225) rfl) rfl
theorem ly7_1 : u_lay RX7 TX7 1 ∈ TBG := tbt_1 (List.mem_of_getElem? (i := 227) rfl) rfl
theorem ly7_2 : u_lay RX7 TX7 2 ∈ TBG := tbt_1 (List.mem_of_getElem? (i := 229) rfl) rfl
theorem ly7_3 : u_lay RX7 TX7 3 ∈ TBG := tbt_1 (List.mem_of_getElem? (i := 231) rfl) rfl
theorem ly7_4 : u_lay RX7 TX7 4 ∈ TBG := tbt_1 (List.mem_of_getElem? (i := 233) rfl) rfl
theorem ly7_5 : u_lay RX7 TX7 5 ∈ TBG := tbt_1 (List.mem_of_getElem? (i := 235) rfl) rfl
theorem ly7_6 : u_lay RX7 TX7 6 ∈ TBG := tbt_1 (List.mem_of_getElem? (i := 237) rfl) rfl
theorem ly7_7 : u_lay RX7 TX7 7 ∈ TBG := tbt_1 (List.mem_of_getElem? (i := 239) rfl) rfl
theorem ixX7 : ∀ w ∈ u_ws RX7 TX7 8, w ∈ TBG := by
  show ∀ w ∈ [u_lay RX7 TX7 0, u_lay RX7 TX7 1, u_lay RX7 TX7 2, u_lay RX7 TX7 3, u_lay RX7 TX7 4, u_lay RX7 TX7 5, u_lay RX7 TX7 6, u_lay RX7 TX7 7], w ∈ TBG
  exact List.forall_mem_cons.mpr ⟨ly7_0, List.forall_mem_cons.mpr ⟨ly7_1, List.forall_mem_cons.mpr ⟨ly7_2, List.forall_mem_cons.mpr ⟨ly7_3, List.forall_mem_cons.mpr ⟨ly7_4, List.forall_mem_cons.mpr ⟨ly7_5, List.forall_mem_cons.mpr ⟨ly7_6, List.forall_mem_cons.mpr ⟨ly7_7, fun _ h => absurd h List.not_mem_nil⟩⟩⟩⟩⟩⟩⟩⟩
theorem ly8_0 : u_lay RX8 TX8 0 ∈ TBG := tbt_4 (List.mem_of_getElem? (i := 138) rfl) rfl
theorem ly8_1 : u_lay RX8 TX8 1 ∈ TBG := tbt_4 (List.mem_of_getElem? (i := 140) rfl) rfl
theorem ly8_2 : u_lay RX8 TX8 2 ∈ TBG := tbt_4 (List.mem_of_getElem? (i := 142) rfl) rfl
theorem ly8_3 : u_lay RX8 TX8 3 ∈ TBG := tbt_4 (List.mem_of_getElem? (i := 144) rfl) rfl
theorem ly8_4 : u_lay RX8 TX8 4 ∈ TBG := tbt_4 (List.mem_of_getElem? (i := 146) rfl) rfl
theorem ly8_5 : u_lay RX8 TX8 5 ∈ TBG := tbt_4 (List.mem_of_getElem? (i := 148) rfl) rfl
theorem ly8_6 : u_lay RX8 TX8 6 ∈ TBG := tbt_4 (List.mem_of_getElem? (i := 150) rfl) rfl
theorem ly8_7 : u_lay RX8 TX8 7 ∈ TBG := tbt_4 (List.mem_of_getElem? (i := 152) rfl) rfl
theorem ly8_8 : u_lay RX8 TX8 8 ∈ TBG := tbt_4 (List.mem_of_getElem? (i := 154) rfl) rfl
theorem ly8_9 : u_lay RX8 TX8 9 ∈ TBG := tbt_4 (List.mem_of_getElem? (i := 156) rfl) rfl
theorem ly8_10 : u_lay RX8 TX8 10 ∈ TBG := tbt_4 (List.mem_of_getElem? (i := 158) rfl) rfl
theorem ly8_11 : u_lay RX8 TX8 11 ∈ TBG := tbt_4 (List.mem_of_getElem? (i := 160) rfl) rfl
theorem ly8_12 : u_lay RX8 TX8 12 ∈ TBG := tbt_4 (List.mem_of_getElem? (i := 162) rfl) rfl
theorem ly8_13 : u_lay RX8 TX8 13 ∈ TBG := tbt_4 (List.mem_of_getElem? (i := 164) rfl) rfl
theorem ly8_14 : u_lay RX8 TX8 14 ∈ TBG := tbt_4 (List.mem_of_getElem? (i := 166) rfl) rfl
theorem ly8_15 : u_lay RX8 TX8 15 ∈ TBG := tbt_4 (List.mem_of_getElem? (i := 168) rfl) rfl
theorem ly8_16 : u_lay RX8 TX8 16 ∈ TBG := tbt_4 (List.mem_of_getElem? (i := 170) rfl) rfl
theorem ly8_17 : u_lay RX8 TX8 17 ∈ TBG := tbt_4 (List.mem_of_getElem? (i := 172) rfl) rfl
theorem ly8_18 : u_lay RX8 TX8 18 ∈ TBG := tbt_4 (List.mem_of_getElem? (i := 174) rfl) rfl
theorem ly8_19 : u_lay RX8 TX8 19 ∈ TBG := tbt_4 (List.mem_of_getElem? (i := 176) rfl) rfl
theorem ly8_20 : u_lay RX8 TX8 20 ∈ TBG := tbt_4 (List.mem_of_getElem? (i := 178) rfl) rfl
theorem ixX8 : ∀ w ∈ u_ws RX8 TX8 21, w ∈ TBG := by
  show ∀ w ∈ [u_lay RX8 TX8 0, u_lay RX8 TX8 1, u_lay RX8 TX8 2, u_lay RX8 TX8 3, u_lay RX8 TX8 4, u_lay RX8 TX8 5, u_lay RX8 TX8 6, u_lay RX8 TX8 7, u_lay RX8 TX8 8, u_lay RX8 TX8 9, u_lay RX8 TX8 10, u_lay RX8 TX8 11, u_lay RX8 TX8 12, u_lay RX8 TX8 13, u_lay RX8 TX8 14, u_lay RX8 TX8 15, u_lay RX8 TX8 16, u_lay RX8 TX8 17, u_lay RX8 TX8 18, u_lay RX8 TX8 19, u_lay RX8 TX8 20], w ∈ TBG
  exact List.forall_mem_cons.mpr ⟨ly8_0, List.forall_mem_cons.mpr ⟨ly8_1, List.forall_mem_cons.mpr ⟨ly8_2, List.forall_mem_cons.mpr ⟨ly8_3, List.forall_mem_cons.mpr ⟨ly8_4, List.forall_mem_cons.mpr ⟨ly8_5, List.forall_mem_cons.mpr ⟨ly8_6, List.forall_mem_cons.mpr ⟨ly8_7, List.forall_mem_cons.mpr ⟨ly8_8, List.forall_mem_cons.mpr ⟨ly8_9, List.forall_mem_cons.mpr ⟨ly8_10, List.forall_mem_cons.mpr ⟨ly8_11, List.forall_mem_cons.mpr ⟨ly8_12, List.forall_mem_cons.mpr ⟨ly8_13, List.forall_mem_cons.mpr ⟨ly8_14, List.forall_mem_cons.mpr ⟨ly8_15, List.forall_mem_cons.mpr ⟨ly8_16, List.forall_mem_cons.mpr ⟨ly8_17, List.forall_mem_cons.mpr ⟨ly8_18, List.forall_mem_cons.mpr ⟨ly8_19, List.forall_mem_cons.mpr ⟨ly8_20, fun _ h => absurd h List.not_mem_nil⟩⟩⟩⟩⟩⟩⟩⟩⟩⟩⟩⟩⟩⟩⟩⟩⟩⟩⟩⟩⟩
