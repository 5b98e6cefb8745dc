def TBG : List Cond := lw_tbl.filter goodWord
theorem TBG_in : ∀ w ∈ TBG, w ∈ lw_tbl := fun w h => (List.mem_filter.mp h).1
theorem TBG_gd {w : Cond} (h : w ∈ TBG) : (w.onTables && w.keeps) = true ∨ ∃ ty, w = .arrayClass ty := good_of_word (List.mem_filter.mp h).2
theorem tbq {w : Cond} (h : w ∈ tables_1) (g : goodWord w = true) : w ∈ TBG := List.mem_filter.mpr ⟨List.mem_append_right _ h, g⟩
theorem tbs {w : Cond} (h : w ∈ k2_sels lw_privs) (g : goodWord w = true) : w ∈ TBG := List.mem_filter.mpr ⟨List.mem_append_left _ h, g⟩
theorem tbt_1 {w : Cond} (h : w ∈ tables_1_1) (g : goodWord w = true) : w ∈ TBG := tbq (List.mem_append_left _ h) g
theorem tbl_1 {w : Cond} (h : w ∈ tables_1_1) : w ∈ lw_tbl := List.mem_append_right _ (List.mem_append_left _ h)
theorem tbt_2 {w : Cond} (h : w ∈ tables_1_2) (g : goodWord w = true) : w ∈ TBG := tbq (List.mem_append_right _ (List.mem_append_left _ h)) g
theorem tbl_2 {w : Cond} (h : w ∈ tables_1_2) : w ∈ lw_tbl := List.mem_append_right _ (List.mem_append_right _ (List.mem_append_left _ h))
theorem tbt_3 {w : Cond} (h : w ∈ tables_1_3) (g : goodWord w = true) : w ∈ TBG := tbq (List.mem_append_right _ (List.mem_append_right _ (List.mem_append_left _ h))) g
theorem tbl_3 {w : Cond} (h : w ∈ tables_1_3) : w ∈ lw_tbl := List.mem_append_right _ (List.mem_append_right _ (List.mem_append_right _ (List.mem_append_left _ h)))
theorem tbt_4 {w : Cond} (h : w ∈ tables_1_4) (g : goodWord w = true) : w ∈ TBG := tbq (List.mem_append_right _ (List.mem_append_right _ (List.mem_append_right _ (h)))) g
theorem tbl_4 {w : Cond} (h : w ∈ tables_1_4) : w ∈ lw_tbl := List.mem_append_right _ (List.mem_append_right _ (List.mem_append_right _ (List.mem_append_right _ (h))))
theorem q0 : (.initialized RL : Cond) ∈ TBG := tbt_1 (List.mem_of_getElem? (i := 0) rfl) rfl
theorem q1 : (.initialized RX7 : Cond) ∈ TBG := tbt_1 (List.mem_of_getElem? (i := 1) rfl) rfl
theorem q2 : (.initialized RX5 : Cond) ∈ TBG := tbt_1 (List.mem_of_getElem? (i := 2) rfl) rfl
theorem q3 : (.initialized RX3 : Cond) ∈ TBG := tbt_1 (List.mem_of_getElem? (i := 3) rfl) rfl
theorem q4 : (.initialized RX1 : Cond) ∈ TBG := tbt_1 (List.mem_of_getElem? (i := 4) rfl) rfl
theorem q5 : (.initialized RX0 : Cond) ∈ TBG := tbt_1 (List.mem_of_getElem? (i := 5) rfl) rfl
theorem q6 : (.initialized RX6 : Cond) ∈ TBG := tbt_1 (List.mem_of_getElem? (i := 6) rfl) rfl
theorem q7 : (.initialized RX2 : Cond) ∈ TBG := tbt_1 (List.mem_of_getElem? (i := 7) rfl) rfl
theorem q8 : (.initialized RX4 : Cond) ∈ TBG := tbt_1 (List.mem_of_getElem? (i := 8) rfl) rfl
theorem q9 : (.initialized "java/lang/Throwable" : Cond) ∈ TBG := tbt_1 (List.mem_of_getElem? (i := 9) rfl) rfl
theorem q10 : (.initialized "java/lang/Exception" : Cond) ∈ TBG := tbt_1 (List.mem_of_getElem? (i := 10) rfl) rfl
theorem q11 : (.initialized "java/lang/RuntimeException" : Cond) ∈ TBG := tbt_1 (List.mem_of_getElem? (i := 11) rfl) rfl
theorem q12 : (.initialized "java/lang/IllegalArgumentException" : Cond) ∈ TBG := tbt_1 (List.mem_of_getElem? (i := 12) rfl) rfl
theorem q13 : (.initialized "java/lang/IndexOutOfBoundsException" : Cond) ∈ TBG := tbt_1 (List.mem_of_getElem? (i := 13) rfl) rfl
theorem q14 : (.initialized RJ9 : Cond) ∈ TBG := tbt_1 (List.mem_of_getElem? (i := 14) rfl) rfl
theorem q15 : (.initialized "java/lang/IllegalStateException" : Cond) ∈ TBG := tbt_1 (List.mem_of_getElem? (i := 15) rfl) rfl
theorem q16 : (.classLink RL 10 RX7 : Cond) ∈ TBG := tbt_1 (List.mem_of_getElem? (i := 16) rfl) rfl
theorem q17 : (.instantiable RX7 8 : Cond) ∈ TBG := tbt_1 (List.mem_of_getElem? (i := 17) rfl) rfl
theorem q18 : (.methodLink RL 110 yX7_init : Cond) ∈ TBG := tbt_1 (List.mem_of_getElem? (i := 18) rfl) rfl
theorem q19 : (.instanceMethod yX7_init : Cond) ∈ TBG := tbt_1 (List.mem_of_getElem? (i := 19) rfl) rfl
theorem q20 : (.code yX7_init cX7_init 1 none : Cond) ∈ TBG := tbt_1 (List.mem_of_getElem? (i := 20) rfl) rfl
theorem q21 : (.methodLink RX7 1 objectInit : Cond) ∈ TBG := tbt_1 (List.mem_of_getElem? (i := 21) rfl) rfl
theorem q22 : (.instanceMethod objectInit : Cond) ∈ TBG := tbt_1 (List.mem_of_getElem? (i := 22) rfl) rfl
theorem q23 : (.code objectInit object_method_1_code 1 none : Cond) ∈ TBG := tbt_1 (List.mem_of_getElem? (i := 23) rfl) rfl
theorem q24 : (.classLink RX7 7 RX5 : Cond) ∈ TBG := tbt_1 (List.mem_of_getElem? (i := 24) rfl) rfl
theorem q25 : (.instantiable RX5 8 : Cond) ∈ TBG := tbt_1 (List.mem_of_getElem? (i := 25) rfl) rfl
theorem q26 : (.methodLink RX7 9 yX5_init : Cond) ∈ TBG := tbt_1 (List.mem_of_getElem? (i := 26) rfl) rfl
theorem q27 : (.instanceMethod yX5_init : Cond) ∈ TBG := tbt_1 (List.mem_of_getElem? (i := 27) rfl) rfl
theorem q28 : (.code yX5_init cX5_init 1 none : Cond) ∈ TBG := tbt_1 (List.mem_of_getElem? (i := 28) rfl) rfl
theorem q29 : (.methodLink RX5 3 objectInit : Cond) ∈ TBG := tbt_1 (List.mem_of_getElem? (i := 29) rfl) rfl
theorem q30 : (.methodLinkNest RX5 37 yX7_setIn RX7 : Cond) ∈ lw_tbl := tbl_1 (List.mem_of_getElem? (i := 30) rfl)
theorem q31 : (.static yX7_setIn : Cond) ∈ TBG := tbt_1 (List.mem_of_getElem? (i := 31) rfl) rfl
theorem q32 : (.code yX7_setIn cX7_setIn 3 none : Cond) ∈ TBG := tbt_1 (List.mem_of_getElem? (i := 32) rfl) rfl
theorem q33 : (.fieldLink RX5 9 "LeastRows$State" "rows" "I" : Cond) ∈ TBG := tbt_1 (List.mem_of_getElem? (i := 33) rfl) rfl
theorem q34 : (.fieldLink RX1 38 "LeastRows$State" "rows" "I" : Cond) ∈ TBG := tbt_1 (List.mem_of_getElem? (i := 34) rfl) rfl
theorem q35 : (.fieldLink RX7 81 "LeastRows$State" "rows" "I" : Cond) ∈ TBG := tbt_1 (List.mem_of_getElem? (i := 35) rfl) rfl
theorem q36 : (.fieldLink RX3 31 "LeastRows$State" "rows" "I" : Cond) ∈ TBG := tbt_1 (List.mem_of_getElem? (i := 36) rfl) rfl
theorem q37 : (.fieldLink RX5 15 "LeastRows$State" "columns" "I" : Cond) ∈ TBG := tbt_1 (List.mem_of_getElem? (i := 37) rfl) rfl
theorem q38 : (.fieldLink RX1 43 "LeastRows$State" "columns" "I" : Cond) ∈ TBG := tbt_1 (List.mem_of_getElem? (i := 38) rfl) rfl
theorem q39 : (.fieldLink RX7 85 "LeastRows$State" "columns" "I" : Cond) ∈ TBG := tbt_1 (List.mem_of_getElem? (i := 39) rfl) rfl
theorem q40 : (.fieldLink RX3 36 "LeastRows$State" "columns" "I" : Cond) ∈ TBG := tbt_1 (List.mem_of_getElem? (i := 40) rfl) rfl
theorem q41 : (.fieldLink RX5 18 "LeastRows$State" "weightCount" "I" : Cond) ∈ TBG := tbt_1 (List.mem_of_getElem? (i := 41) rfl) rfl
theorem q42 : (.fieldLink RX0 28 "LeastRows$State" "weightCount" "I" : Cond) ∈ TBG := tbt_1 (List.mem_of_getElem? (i := 42) rfl) rfl
theorem q43 : (.fieldLink RX7 166 "LeastRows$State" "weightCount" "I" : Cond) ∈ TBG := tbt_1 (List.mem_of_getElem? (i := 43) rfl) rfl
theorem q44 : (.fieldLink RX5 21 "LeastRows$State" "looksCounted" "I" : Cond) ∈ TBG := tbt_1 (List.mem_of_getElem? (i := 44) rfl) rfl
theorem q45 : (.fieldLink RX7 158 "LeastRows$State" "looksCounted" "I" : Cond) ∈ TBG := tbt_1 (List.mem_of_getElem? (i := 45) rfl) rfl
theorem q46 : (.fieldLink RX5 24 "LeastRows$State" "timesFound" "I" : Cond) ∈ TBG := tbt_1 (List.mem_of_getElem? (i := 46) rfl) rfl
theorem q47 : (.fieldLink RX7 161 "LeastRows$State" "timesFound" "I" : Cond) ∈ TBG := tbt_1 (List.mem_of_getElem? (i := 47) rfl) rfl
theorem q48 : (.fieldLink RX5 27 "LeastRows$State" "timesMended" "I" : Cond) ∈ TBG := tbt_1 (List.mem_of_getElem? (i := 48) rfl) rfl
theorem q49 : (.fieldLink RX7 133 "LeastRows$State" "timesMended" "I" : Cond) ∈ TBG := tbt_1 (List.mem_of_getElem? (i := 49) rfl) rfl
theorem q50 : (.fieldLink RX5 30 "LeastRows$State" "cells" "[I" : Cond) ∈ TBG := tbt_1 (List.mem_of_getElem? (i := 50) rfl) rfl
theorem q51 : (.fieldLink RX5 34 "LeastRows$State" "weights" "[I" : Cond) ∈ TBG := tbt_1 (List.mem_of_getElem? (i := 51) rfl) rfl
theorem q52 : (.arrayClass .int : Cond) ∈ TBG := tbt_1 (List.mem_of_getElem? (i := 69) rfl) rfl
theorem q53 : (.classLink RX7 16 RX3 : Cond) ∈ TBG := tbt_1 (List.mem_of_getElem? (i := 70) rfl) rfl
theorem q54 : (.instantiable RX3 5 : Cond) ∈ TBG := tbt_1 (List.mem_of_getElem? (i := 71) rfl) rfl
theorem q55 : (.methodLink RX7 18 yX3_init : Cond) ∈ TBG := tbt_1 (List.mem_of_getElem? (i := 72) rfl) rfl
theorem q56 : (.instanceMethod yX3_init : Cond) ∈ TBG := tbt_1 (List.mem_of_getElem? (i := 73) rfl) rfl
theorem q57 : (.code yX3_init cX3_init 2 none : Cond) ∈ TBG := tbt_1 (List.mem_of_getElem? (i := 74) rfl) rfl
theorem q58 : (.methodLink RX3 3 objectInit : Cond) ∈ TBG := tbt_1 (List.mem_of_getElem? (i := 75) rfl) rfl
theorem q59 : (.fieldLink RX3 9 "LeastRows$Rule" "row" "I" : Cond) ∈ TBG := tbt_1 (List.mem_of_getElem? (i := 76) rfl) rfl
theorem q60 : (.fieldLink RX7 124 "LeastRows$Rule" "row" "I" : Cond) ∈ TBG := tbt_1 (List.mem_of_getElem? (i := 77) rfl) rfl
theorem q61 : (.fieldLink RX3 15 "LeastRows$Rule" "left" "I" : Cond) ∈ TBG := tbt_1 (List.mem_of_getElem? (i := 78) rfl) rfl
theorem q62 : (.fieldLink RX7 130 "LeastRows$Rule" "left" "I" : Cond) ∈ TBG := tbt_1 (List.mem_of_getElem? (i := 79) rfl) rfl
theorem q63 : (.fieldLink RX3 18 "LeastRows$Rule" "right" "I" : Cond) ∈ TBG := tbt_1 (List.mem_of_getElem? (i := 80) rfl) rfl
theorem q64 : (.fieldLink RX7 127 "LeastRows$Rule" "right" "I" : Cond) ∈ TBG := tbt_1 (List.mem_of_getElem? (i := 81) rfl) rfl
theorem q65 : (.fieldLink RX3 21 "LeastRows$Rule" "witnesses" "I" : Cond) ∈ TBG := tbt_1 (List.mem_of_getElem? (i := 82) rfl) rfl
theorem q66 : (.fieldLink RX7 121 "LeastRows$Rule" "witnesses" "I" : Cond) ∈ TBG := tbt_1 (List.mem_of_getElem? (i := 83) rfl) rfl
theorem q67 : (.fieldLink RX3 24 "LeastRows$Rule" "table" "LLeastRows$State;" : Cond) ∈ TBG := tbt_1 (List.mem_of_getElem? (i := 84) rfl) rfl
theorem q68 : (.classLink RX7 25 RX1 : Cond) ∈ TBG := tbt_1 (List.mem_of_getElem? (i := 96) rfl) rfl
theorem q69 : (.instantiable RX1 7 : Cond) ∈ TBG := tbt_1 (List.mem_of_getElem? (i := 97) rfl) rfl
theorem q70 : (.methodLink RX7 27 yX1_init : Cond) ∈ TBG := tbt_1 (List.mem_of_getElem? (i := 98) rfl) rfl
theorem q71 : (.instanceMethod yX1_init : Cond) ∈ TBG := tbt_1 (List.mem_of_getElem? (i := 99) rfl) rfl
theorem q72 : (.code yX1_init cX1_init 2 none : Cond) ∈ TBG := tbt_1 (List.mem_of_getElem? (i := 100) rfl) rfl
theorem q73 : (.methodLink RX1 3 objectInit : Cond) ∈ TBG := tbt_1 (List.mem_of_getElem? (i := 101) rfl) rfl
theorem q74 : (.fieldLink RX1 31 "LeastRows$Finder" "table" "LLeastRows$State;" : Cond) ∈ TBG := tbt_1 (List.mem_of_getElem? (i := 102) rfl) rfl
theorem q75 : (.fieldLink RX1 9 "LeastRows$Finder" "places" "[I" : Cond) ∈ TBG := tbt_1 (List.mem_of_getElem? (i := 103) rfl) rfl
theorem q76 : (.fieldLink RX1 15 "LeastRows$Finder" "looksMade" "[I" : Cond) ∈ TBG := tbt_1 (List.mem_of_getElem? (i := 104) rfl) rfl
theorem q77 : (.fieldLink RX1 18 "LeastRows$Finder" "left" "[I" : Cond) ∈ TBG := tbt_1 (List.mem_of_getElem? (i := 105) rfl) rfl
theorem q78 : (.fieldLink RX1 21 "LeastRows$Finder" "leftCount" "[I" : Cond) ∈ TBG := tbt_1 (List.mem_of_getElem? (i := 106) rfl) rfl
theorem q79 : (.fieldLink RX1 24 "LeastRows$Finder" "way" "I" : Cond) ∈ TBG := tbt_1 (List.mem_of_getElem? (i := 107) rfl) rfl
theorem q80 : (.fieldLink RX1 28 "LeastRows$Finder" "looksNow" "I" : Cond) ∈ TBG := tbt_1 (List.mem_of_getElem? (i := 108) rfl) rfl
theorem q81 : (.classLink RX7 32 RX0 : Cond) ∈ TBG := tbt_1 (List.mem_of_getElem? (i := 124) rfl) rfl
theorem q82 : (.instantiable RX0 5 : Cond) ∈ TBG := tbt_1 (List.mem_of_getElem? (i := 125) rfl) rfl
theorem q83 : (.methodLink RX7 34 yX0_init : Cond) ∈ TBG := tbt_1 (List.mem_of_getElem? (i := 126) rfl) rfl
theorem q84 : (.instanceMethod yX0_init : Cond) ∈ TBG := tbt_1 (List.mem_of_getElem? (i := 127) rfl) rfl
theorem q85 : (.code yX0_init cX0_init 2 none : Cond) ∈ TBG := tbt_1 (List.mem_of_getElem? (i := 128) rfl) rfl
theorem q86 : (.methodLink RX0 3 objectInit : Cond) ∈ TBG := tbt_1 (List.mem_of_getElem? (i := 129) rfl) rfl
theorem q87 : (.fieldLink RX0 24 "LeastRows$Cutter" "state" "LLeastRows$State;" : Cond) ∈ TBG := tbt_1 (List.mem_of_getElem? (i := 130) rfl) rfl
theorem q88 : (.fieldLink RX0 11 "LeastRows$Cutter" "least" "[I" : Cond) ∈ TBG := tbt_1 (List.mem_of_getElem? (i := 131) rfl) rfl
theorem q89 : (.fieldLink RX0 15 "LeastRows$Cutter" "lastCut" "[I" : Cond) ∈ TBG := tbt_1 (List.mem_of_getElem? (i := 132) rfl) rfl
theorem q90 : (.fieldLink RX0 18 "LeastRows$Cutter" "firstTogether" "[I" : Cond) ∈ TBG := tbt_1 (List.mem_of_getElem? (i := 133) rfl) rfl
theorem q91 : (.fieldLink RX0 21 "LeastRows$Cutter" "tried" "[I" : Cond) ∈ TBG := tbt_1 (List.mem_of_getElem? (i := 134) rfl) rfl
theorem q92 : (.classLink RX7 39 RX6 : Cond) ∈ TBG := tbt_1 (List.mem_of_getElem? (i := 146) rfl) rfl
theorem q93 : (.instantiable RX6 8 : Cond) ∈ TBG := tbt_1 (List.mem_of_getElem? (i := 147) rfl) rfl
theorem q94 : (.methodLinkNest RX7 41 yX6_init RX7 : Cond) ∈ lw_tbl := tbl_1 (List.mem_of_getElem? (i := 148) rfl)
theorem q95 : (.instanceMethod yX6_init : Cond) ∈ TBG := tbt_1 (List.mem_of_getElem? (i := 149) rfl) rfl
theorem q96 : (.code yX6_init cX6_init 1 none : Cond) ∈ TBG := tbt_1 (List.mem_of_getElem? (i := 150) rfl) rfl
theorem q97 : (.methodLink RX6 3 objectInit : Cond) ∈ TBG := tbt_1 (List.mem_of_getElem? (i := 151) rfl) rfl
theorem q98 : (.fieldLink RX6 9 "LeastRows$Text" "length" "I" : Cond) ∈ TBG := tbt_1 (List.mem_of_getElem? (i := 152) rfl) rfl
theorem q99 : (.fieldLink RX7 181 "LeastRows$Text" "length" "I" : Cond) ∈ TBG := tbt_1 (List.mem_of_getElem? (i := 153) rfl) rfl
theorem q100 : (.fieldLink RX6 15 "LeastRows$Text" "codes" "[I" : Cond) ∈ TBG := tbt_1 (List.mem_of_getElem? (i := 154) rfl) rfl
theorem q101 : (.fieldLink RX6 19 "LeastRows$Text" "numbers" "[I" : Cond) ∈ TBG := tbt_1 (List.mem_of_getElem? (i := 155) rfl) rfl
theorem q102 : (.fieldLink RX6 22 "LeastRows$Text" "row" "I" : Cond) ∈ TBG := tbt_1 (List.mem_of_getElem? (i := 156) rfl) rfl
theorem q103 : (.fieldLink RX6 25 "LeastRows$Text" "column" "I" : Cond) ∈ TBG := tbt_1 (List.mem_of_getElem? (i := 157) rfl) rfl
theorem q104 : (.fieldLink RX6 28 "LeastRows$Text" "columnsOfFirst" "I" : Cond) ∈ TBG := tbt_1 (List.mem_of_getElem? (i := 158) rfl) rfl
theorem q105 : (.fieldLink RX6 31 "LeastRows$Text" "digits" "I" : Cond) ∈ TBG := tbt_1 (List.mem_of_getElem? (i := 159) rfl) rfl
theorem q106 : (.fieldLink RX6 34 "LeastRows$Text" "number" "I" : Cond) ∈ TBG := tbt_1 (List.mem_of_getElem? (i := 160) rfl) rfl
theorem q107 : (.classLink RX7 46 RX2 : Cond) ∈ TBG := tbt_1 (List.mem_of_getElem? (i := 178) rfl) rfl
theorem q108 : (.instantiable RX2 3 : Cond) ∈ TBG := tbt_1 (List.mem_of_getElem? (i := 179) rfl) rfl
theorem q109 : (.methodLink RX7 48 yX2_init : Cond) ∈ TBG := tbt_1 (List.mem_of_getElem? (i := 180) rfl) rfl
theorem q110 : (.instanceMethod yX2_init : Cond) ∈ TBG := tbt_1 (List.mem_of_getElem? (i := 181) rfl) rfl
theorem q111 : (.code yX2_init cX2_init 2 none : Cond) ∈ TBG := tbt_1 (List.mem_of_getElem? (i := 182) rfl) rfl
theorem q112 : (.methodLink RX2 3 objectInit : Cond) ∈ TBG := tbt_1 (List.mem_of_getElem? (i := 183) rfl) rfl
theorem q113 : (.classLink RX2 18 RX5 : Cond) ∈ TBG := tbt_1 (List.mem_of_getElem? (i := 184) rfl) rfl
theorem q114 : (.methodLink RX2 24 yX5_init : Cond) ∈ TBG := tbt_1 (List.mem_of_getElem? (i := 186) rfl) rfl
theorem q115 : (.fieldLink RX2 9 "LeastRows$History" "count" "I" : Cond) ∈ TBG := tbt_1 (List.mem_of_getElem? (i := 187) rfl) rfl
theorem q116 : (.fieldLink RX7 230 "LeastRows$History" "count" "I" : Cond) ∈ TBG := tbt_1 (List.mem_of_getElem? (i := 188) rfl) rfl
theorem q117 : (.fieldLink RX2 15 "LeastRows$History" "oldest" "I" : Cond) ∈ TBG := tbt_1 (List.mem_of_getElem? (i := 189) rfl) rfl
theorem q118 : (.fieldLink RX2 20 "LeastRows$History" "saved" "[LLeastRows$State;" : Cond) ∈ TBG := tbt_1 (List.mem_of_getElem? (i := 190) rfl) rfl
theorem q119 : (.classLink RX7 53 RX4 : Cond) ∈ TBG := tbt_1 (List.mem_of_getElem? (i := 198) rfl) rfl
theorem q120 : (.instantiable RX4 2 : Cond) ∈ TBG := tbt_1 (List.mem_of_getElem? (i := 199) rfl) rfl
theorem q121 : (.methodLinkNest RX7 55 yX4_init RX7 : Cond) ∈ lw_tbl := tbl_1 (List.mem_of_getElem? (i := 200) rfl)
theorem q122 : (.instanceMethod yX4_init : Cond) ∈ TBG := tbt_1 (List.mem_of_getElem? (i := 201) rfl) rfl
theorem q123 : (.code yX4_init cX4_init 1 none : Cond) ∈ TBG := tbt_1 (List.mem_of_getElem? (i := 202) rfl) rfl
theorem q124 : (.methodLink RX4 1 objectInit : Cond) ∈ TBG := tbt_1 (List.mem_of_getElem? (i := 203) rfl) rfl
theorem q125 : (.classLink RX4 13 RX5 : Cond) ∈ TBG := tbt_1 (List.mem_of_getElem? (i := 204) rfl) rfl
theorem q126 : (.methodLink RX4 15 yX5_init : Cond) ∈ TBG := tbt_1 (List.mem_of_getElem? (i := 205) rfl) rfl
theorem q127 : (.fieldLink RX4 7 "LeastRows$Slot" "isFilled" "Z" : Cond) ∈ TBG := tbt_1 (List.mem_of_getElem? (i := 206) rfl) rfl
theorem q128 : (.fieldLink RX7 218 "LeastRows$Slot" "isFilled" "Z" : Cond) ∈ TBG := tbt_1 (List.mem_of_getElem? (i := 207) rfl) rfl
theorem q129 : (.fieldLink RX4 16 "LeastRows$Slot" "snapshot" "LLeastRows$State;" : Cond) ∈ TBG := tbt_1 (List.mem_of_getElem? (i := 208) rfl) rfl
theorem q130 : (.fieldLink RX7 224 "LeastRows$Slot" "snapshot" "LLeastRows$State;" : Cond) ∈ TBG := tbt_1 (List.mem_of_getElem? (i := 209) rfl) rfl
theorem q131 : (.fieldLink RX7 10 "LeastRows" "now" "LLeastRows$State;" : Cond) ∈ TBG := tbt_1 (List.mem_of_getElem? (i := 215) rfl) rfl
theorem q132 : (.fieldLink RX7 21 "LeastRows" "rule" "LLeastRows$Rule;" : Cond) ∈ TBG := tbt_1 (List.mem_of_getElem? (i := 216) rfl) rfl
theorem q133 : (.fieldLink RX7 28 "LeastRows" "finder" "LLeastRows$Finder;" : Cond) ∈ TBG := tbt_1 (List.mem_of_getElem? (i := 217) rfl) rfl
theorem q134 : (.fieldLink RX7 35 "LeastRows" "cutter" "LLeastRows$Cutter;" : Cond) ∈ TBG := tbt_1 (List.mem_of_getElem? (i := 218) rfl) rfl
theorem q135 : (.fieldLink RX7 42 "LeastRows" "text" "LLeastRows$Text;" : Cond) ∈ TBG := tbt_1 (List.mem_of_getElem? (i := 219) rfl) rfl
theorem q136 : (.fieldLink RX7 49 "LeastRows" "history" "LLeastRows$History;" : Cond) ∈ TBG := tbt_1 (List.mem_of_getElem? (i := 220) rfl) rfl
theorem q137 : (.fieldLink RX7 56 "LeastRows" "slotZero" "LLeastRows$Slot;" : Cond) ∈ TBG := tbt_1 (List.mem_of_getElem? (i := 221) rfl) rfl
theorem q138 : (.fieldLink RX7 60 "LeastRows" "slotOne" "LLeastRows$Slot;" : Cond) ∈ TBG := tbt_1 (List.mem_of_getElem? (i := 222) rfl) rfl
theorem q139 : (.methodLink RL 15 yX7_put : Cond) ∈ TBG := tbt_2 (List.mem_of_getElem? (i := 0) rfl) rfl
theorem q140 : (.instanceMethod yX7_put : Cond) ∈ TBG := tbt_2 (List.mem_of_getElem? (i := 1) rfl) rfl
theorem q141 : (.selects RX7 yX7_put yX7_put : Cond) ∈ TBG := tbt_2 (List.mem_of_getElem? (i := 2) rfl) rfl
theorem q142 : (.code yX7_put cX7_put 5 (some .int) : Cond) ∈ TBG := tbt_2 (List.mem_of_getElem? (i := 3) rfl) rfl
theorem q143 : (.methodLink RX7 88 yX5_hasCell : Cond) ∈ TBG := tbt_2 (List.mem_of_getElem? (i := 4) rfl) rfl
theorem q144 : (.instanceMethod yX5_hasCell : Cond) ∈ TBG := tbt_2 (List.mem_of_getElem? (i := 5) rfl) rfl
theorem q145 : (.selects RX5 yX5_hasCell yX5_hasCell : Cond) ∈ TBG := tbt_2 (List.mem_of_getElem? (i := 6) rfl) rfl
theorem q146 : (.code yX5_hasCell cX5_hasCell 3 (some .boolean) : Cond) ∈ TBG := tbt_2 (List.mem_of_getElem? (i := 7) rfl) rfl
theorem q147 : (.methodLinkNest RX5 41 yX7_isFromTo RX7 : Cond) ∈ lw_tbl := tbl_2 (List.mem_of_getElem? (i := 8) rfl)
theorem q148 : (.static yX7_isFromTo : Cond) ∈ TBG := tbt_2 (List.mem_of_getElem? (i := 9) rfl) rfl
theorem q149 : (.code yX7_isFromTo cX7_isFromTo 3 (some .boolean) : Cond) ∈ TBG := tbt_2 (List.mem_of_getElem? (i := 10) rfl) rfl
theorem q150 : (.classLink RX7 92 "java/lang/IndexOutOfBoundsException" : Cond) ∈ TBG := tbt_2 (List.mem_of_getElem? (i := 11) rfl) rfl
theorem q151 : (.instantiable "java/lang/IndexOutOfBoundsException" 6 : Cond) ∈ TBG := tbt_2 (List.mem_of_getElem? (i := 12) rfl) rfl
theorem q152 : (.castable "java/lang/IndexOutOfBoundsException" "java/lang/IndexOutOfBoundsException" : Cond) ∈ lw_tbl := tbl_2 (List.mem_of_getElem? (i := 13) rfl)
theorem q153 : (.selects "java/lang/IndexOutOfBoundsException" (⟨"java/lang/Throwable", "fillInStackTrace", "(I)Ljava/lang/Throwable;"⟩ : MethodName) (⟨"java/lang/Throwable", "fillInStackTrace", "(I)Ljava/lang/Throwable;"⟩ : MethodName) : Cond) ∈ TBG := tbt_2 (List.mem_of_getElem? (i := 20) rfl) rfl
theorem q154 : (.selects "java/lang/IndexOutOfBoundsException" (⟨"java/lang/Throwable", "fillInStackTrace", "()Ljava/lang/Throwable;"⟩ : MethodName) (⟨"java/lang/Throwable", "fillInStackTrace", "()Ljava/lang/Throwable;"⟩ : MethodName) : Cond) ∈ TBG := tbt_2 (List.mem_of_getElem? (i := 21) rfl) rfl
theorem q155 : (.fieldLink "java/lang/Throwable" 198 "java/lang/Throwable" "backtrace" "Ljava/lang/Object;" : Cond) ∈ TBG := tbt_2 (List.mem_of_getElem? (i := 32) rfl) rfl
theorem q156 : (.instanceMethod (⟨"java/lang/Throwable", "<init>", "()V"⟩ : MethodName) : Cond) ∈ TBG := tbt_2 (List.mem_of_getElem? (i := 34) rfl) rfl
theorem q157 : (.code (⟨"java/lang/Throwable", "<init>", "()V"⟩ : MethodName) prog_18_method_1_code 1 none : Cond) ∈ TBG := tbt_2 (List.mem_of_getElem? (i := 35) rfl) rfl
theorem q158 : (.methodLink "java/lang/Throwable" 1 objectInit : Cond) ∈ TBG := tbt_2 (List.mem_of_getElem? (i := 36) rfl) rfl
theorem q159 : (.fieldLink "java/lang/Throwable" 13 "java/lang/Throwable" "UNASSIGNED_STACK" "[Ljava/lang/StackTraceElement;" : Cond) ∈ TBG := tbt_2 (List.mem_of_getElem? (i := 37) rfl) rfl
theorem q160 : (.fieldLink "java/lang/Throwable" 20 "java/lang/Throwable" "SUPPRESSED_SENTINEL" "Ljava/util/List;" : Cond) ∈ TBG := tbt_2 (List.mem_of_getElem? (i := 39) rfl) rfl
theorem q161 : (.methodLink "java/lang/Throwable" 27 (⟨"java/lang/Throwable", "fillInStackTrace", "()Ljava/lang/Throwable;"⟩ : MethodName) : Cond) ∈ TBG := tbt_2 (List.mem_of_getElem? (i := 41) rfl) rfl
theorem q162 : (.instanceMethod (⟨"java/lang/Throwable", "fillInStackTrace", "()Ljava/lang/Throwable;"⟩ : MethodName) : Cond) ∈ TBG := tbt_2 (List.mem_of_getElem? (i := 42) rfl) rfl
theorem q163 : (.selects "java/lang/IllegalArgumentException" (⟨"java/lang/Throwable", "fillInStackTrace", "()Ljava/lang/Throwable;"⟩ : MethodName) (⟨"java/lang/Throwable", "fillInStackTrace", "()Ljava/lang/Throwable;"⟩ : MethodName) : Cond) ∈ TBG := tbt_2 (List.mem_of_getElem? (i := 44) rfl) rfl
theorem q164 : (.selects "java/lang/IllegalStateException" (⟨"java/lang/Throwable", "fillInStackTrace", "()Ljava/lang/Throwable;"⟩ : MethodName) (⟨"java/lang/Throwable", "fillInStackTrace", "()Ljava/lang/Throwable;"⟩ : MethodName) : Cond) ∈ TBG := tbt_2 (List.mem_of_getElem? (i := 45) rfl) rfl
theorem q165 : (.methodLink "java/lang/Throwable" 202 (⟨"java/lang/Throwable", "fillInStackTrace", "(I)Ljava/lang/Throwable;"⟩ : MethodName) : Cond) ∈ TBG := tbt_2 (List.mem_of_getElem? (i := 47) rfl) rfl
theorem q166 : (.instanceMethod (⟨"java/lang/Throwable", "fillInStackTrace", "(I)Ljava/lang/Throwable;"⟩ : MethodName) : Cond) ∈ TBG := tbt_2 (List.mem_of_getElem? (i := 49) rfl) rfl
theorem q167 : (.instantiable "java/lang/Throwable" 6 : Cond) ∈ TBG := tbt_2 (List.mem_of_getElem? (i := 50) rfl) rfl
theorem q168 : (.methodLink RX7 96 (⟨"java/lang/IndexOutOfBoundsException", "<init>", "(Ljava/lang/String;)V"⟩ : MethodName) : Cond) ∈ TBG := tbt_2 (List.mem_of_getElem? (i := 53) rfl) rfl
theorem q169 : (.instanceMethod (⟨"java/lang/IndexOutOfBoundsException", "<init>", "(Ljava/lang/String;)V"⟩ : MethodName) : Cond) ∈ TBG := tbt_2 (List.mem_of_getElem? (i := 54) rfl) rfl
theorem q170 : (.code (⟨"java/lang/IndexOutOfBoundsException", "<init>", "(Ljava/lang/String;)V"⟩ : MethodName) prog_14_method_2_code 2 none : Cond) ∈ TBG := tbt_2 (List.mem_of_getElem? (i := 55) rfl) rfl
theorem q171 : (.methodLink "java/lang/IndexOutOfBoundsException" 7 (⟨"java/lang/RuntimeException", "<init>", "(Ljava/lang/String;)V"⟩ : MethodName) : Cond) ∈ TBG := tbt_2 (List.mem_of_getElem? (i := 56) rfl) rfl
theorem q172 : (.instanceMethod (⟨"java/lang/RuntimeException", "<init>", "(Ljava/lang/String;)V"⟩ : MethodName) : Cond) ∈ TBG := tbt_2 (List.mem_of_getElem? (i := 57) rfl) rfl
theorem q173 : (.code (⟨"java/lang/RuntimeException", "<init>", "(Ljava/lang/String;)V"⟩ : MethodName) prog_16_method_2_code 2 none : Cond) ∈ TBG := tbt_2 (List.mem_of_getElem? (i := 58) rfl) rfl
theorem q174 : (.methodLink "java/lang/RuntimeException" 7 (⟨"java/lang/Exception", "<init>", "(Ljava/lang/String;)V"⟩ : MethodName) : Cond) ∈ TBG := tbt_2 (List.mem_of_getElem? (i := 59) rfl) rfl
theorem q175 : (.instanceMethod (⟨"java/lang/Exception", "<init>", "(Ljava/lang/String;)V"⟩ : MethodName) : Cond) ∈ TBG := tbt_2 (List.mem_of_getElem? (i := 60) rfl) rfl
theorem q176 : (.code (⟨"java/lang/Exception", "<init>", "(Ljava/lang/String;)V"⟩ : MethodName) prog_11_method_2_code 2 none : Cond) ∈ TBG := tbt_2 (List.mem_of_getElem? (i := 61) rfl) rfl
theorem q177 : (.methodLink "java/lang/Exception" 7 (⟨"java/lang/Throwable", "<init>", "(Ljava/lang/String;)V"⟩ : MethodName) : Cond) ∈ TBG := tbt_2 (List.mem_of_getElem? (i := 62) rfl) rfl
theorem q178 : (.instanceMethod (⟨"java/lang/Throwable", "<init>", "(Ljava/lang/String;)V"⟩ : MethodName) : Cond) ∈ TBG := tbt_2 (List.mem_of_getElem? (i := 63) rfl) rfl
theorem q179 : (.code (⟨"java/lang/Throwable", "<init>", "(Ljava/lang/String;)V"⟩ : MethodName) prog_18_method_2_code 2 none : Cond) ∈ TBG := tbt_2 (List.mem_of_getElem? (i := 64) rfl) rfl
theorem q180 : (.fieldLink "java/lang/Throwable" 198 "java/lang/Throwable" "backtrace" "Ljava/lang/Object;" : Cond) ∈ TBG := tbt_2 (List.mem_of_getElem? (i := 65) rfl) rfl
theorem q181 : (.fieldLink "java/lang/Throwable" 31 "java/lang/Throwable" "detailMessage" "Ljava/lang/String;" : Cond) ∈ TBG := tbt_2 (List.mem_of_getElem? (i := 66) rfl) rfl
theorem q182 : (.fieldLink "java/lang/Throwable" 7 "java/lang/Throwable" "cause" "Ljava/lang/Throwable;" : Cond) ∈ TBG := tbt_2 (List.mem_of_getElem? (i := 67) rfl) rfl
theorem q183 : (.fieldLink "java/lang/Throwable" 17 "java/lang/Throwable" "stackTrace" "[Ljava/lang/StackTraceElement;" : Cond) ∈ TBG := tbt_2 (List.mem_of_getElem? (i := 68) rfl) rfl
theorem q184 : (.fieldLink "java/lang/Throwable" 24 "java/lang/Throwable" "suppressedExceptions" "Ljava/util/List;" : Cond) ∈ TBG := tbt_2 (List.mem_of_getElem? (i := 69) rfl) rfl
theorem q185 : (.arrayClass .byte : Cond) ∈ TBG := tbt_2 (List.mem_of_getElem? (i := 78) rfl) rfl
theorem q186 : (.methodLink RX7 63 yX7_isFromTo : Cond) ∈ TBG := tbt_2 (List.mem_of_getElem? (i := 79) rfl) rfl
theorem q187 : (.classLink RX7 67 "java/lang/IllegalArgumentException" : Cond) ∈ TBG := tbt_2 (List.mem_of_getElem? (i := 80) rfl) rfl
theorem q188 : (.instantiable "java/lang/IllegalArgumentException" 6 : Cond) ∈ TBG := tbt_2 (List.mem_of_getElem? (i := 81) rfl) rfl
theorem q189 : (.castable "java/lang/IllegalArgumentException" "java/lang/IllegalArgumentException" : Cond) ∈ lw_tbl := tbl_2 (List.mem_of_getElem? (i := 82) rfl)
theorem q190 : (.selects "java/lang/IllegalArgumentException" (⟨"java/lang/Throwable", "fillInStackTrace", "(I)Ljava/lang/Throwable;"⟩ : MethodName) (⟨"java/lang/Throwable", "fillInStackTrace", "(I)Ljava/lang/Throwable;"⟩ : MethodName) : Cond) ∈ TBG := tbt_2 (List.mem_of_getElem? (i := 83) rfl) rfl
theorem q191 : (.methodLink RX7 71 (⟨"java/lang/IllegalArgumentException", "<init>", "(Ljava/lang/String;)V"⟩ : MethodName) : Cond) ∈ TBG := tbt_2 (List.mem_of_getElem? (i := 90) rfl) rfl
theorem q192 : (.instanceMethod (⟨"java/lang/IllegalArgumentException", "<init>", "(Ljava/lang/String;)V"⟩ : MethodName) : Cond) ∈ TBG := tbt_2 (List.mem_of_getElem? (i := 91) rfl) rfl
theorem q193 : (.code (⟨"java/lang/IllegalArgumentException", "<init>", "(Ljava/lang/String;)V"⟩ : MethodName) prog_12_method_2_code 2 none : Cond) ∈ TBG := tbt_2 (List.mem_of_getElem? (i := 92) rfl) rfl
theorem q194 : (.methodLink "java/lang/IllegalArgumentException" 7 (⟨"java/lang/RuntimeException", "<init>", "(Ljava/lang/String;)V"⟩ : MethodName) : Cond) ∈ TBG := tbt_2 (List.mem_of_getElem? (i := 93) rfl) rfl
theorem q195 : (.methodLink RX7 74 yX2_save : Cond) ∈ TBG := tbt_2 (List.mem_of_getElem? (i := 96) rfl) rfl
theorem q196 : (.instanceMethod yX2_save : Cond) ∈ TBG := tbt_2 (List.mem_of_getElem? (i := 97) rfl) rfl
theorem q197 : (.selects RX2 yX2_save yX2_save : Cond) ∈ TBG := tbt_2 (List.mem_of_getElem? (i := 98) rfl) rfl
theorem q198 : (.code yX2_save cX2_save 3 none : Cond) ∈ TBG := tbt_2 (List.mem_of_getElem? (i := 99) rfl) rfl
theorem q199 : (.methodLink RX2 25 yX2_stateAt : Cond) ∈ TBG := tbt_2 (List.mem_of_getElem? (i := 100) rfl) rfl
theorem q200 : (.instanceMethod yX2_stateAt : Cond) ∈ TBG := tbt_2 (List.mem_of_getElem? (i := 102) rfl) rfl
theorem q201 : (.code yX2_stateAt cX2_stateAt 3 (some (.object "LeastRows$State")) : Cond) ∈ TBG := tbt_2 (List.mem_of_getElem? (i := 103) rfl) rfl
theorem q202 : (.methodLink RX2 29 yX5_copyFrom : Cond) ∈ TBG := tbt_2 (List.mem_of_getElem? (i := 104) rfl) rfl
theorem q203 : (.instanceMethod yX5_copyFrom : Cond) ∈ TBG := tbt_2 (List.mem_of_getElem? (i := 105) rfl) rfl
theorem q204 : (.selects RX5 yX5_copyFrom yX5_copyFrom : Cond) ∈ TBG := tbt_2 (List.mem_of_getElem? (i := 106) rfl) rfl
theorem q205 : (.code yX5_copyFrom cX5_copyFrom 2 none : Cond) ∈ TBG := tbt_2 (List.mem_of_getElem? (i := 107) rfl) rfl
theorem q206 : (.methodLinkNest RX5 53 yX7_copyAll RX7 : Cond) ∈ lw_tbl := tbl_2 (List.mem_of_getElem? (i := 108) rfl)
theorem q207 : (.static yX7_copyAll : Cond) ∈ TBG := tbt_2 (List.mem_of_getElem? (i := 109) rfl) rfl
theorem q208 : (.code yX7_copyAll cX7_copyAll 3 none : Cond) ∈ TBG := tbt_2 (List.mem_of_getElem? (i := 110) rfl) rfl
theorem q209 : (.methodLink RX7 99 yX5_numberAt : Cond) ∈ TBG := tbt_2 (List.mem_of_getElem? (i := 111) rfl) rfl
theorem q210 : (.instanceMethod yX5_numberAt : Cond) ∈ TBG := tbt_2 (List.mem_of_getElem? (i := 112) rfl) rfl
theorem q211 : (.selects RX5 yX5_numberAt yX5_numberAt : Cond) ∈ TBG := tbt_2 (List.mem_of_getElem? (i := 113) rfl) rfl
theorem q212 : (.code yX5_numberAt cX5_numberAt 4 (some .int) : Cond) ∈ TBG := tbt_2 (List.mem_of_getElem? (i := 114) rfl) rfl
theorem q213 : (.methodLink RX7 103 yX5_setNumber : Cond) ∈ TBG := tbt_2 (List.mem_of_getElem? (i := 115) rfl) rfl
theorem q214 : (.instanceMethod yX5_setNumber : Cond) ∈ TBG := tbt_2 (List.mem_of_getElem? (i := 116) rfl) rfl
theorem q215 : (.selects RX5 yX5_setNumber yX5_setNumber : Cond) ∈ TBG := tbt_2 (List.mem_of_getElem? (i := 117) rfl) rfl
theorem q216 : (.code yX5_setNumber cX5_setNumber 4 none : Cond) ∈ TBG := tbt_2 (List.mem_of_getElem? (i := 118) rfl) rfl
theorem q217 : (.methodLink RL 19 yX7_points : Cond) ∈ TBG := tbt_2 (List.mem_of_getElem? (i := 119) rfl) rfl
theorem q218 : (.instanceMethod yX7_points : Cond) ∈ TBG := tbt_2 (List.mem_of_getElem? (i := 120) rfl) rfl
theorem q219 : (.selects RX7 yX7_points yX7_points : Cond) ∈ TBG := tbt_2 (List.mem_of_getElem? (i := 121) rfl) rfl
theorem q220 : (.code yX7_points cX7_points 8 (some .int) : Cond) ∈ TBG := tbt_2 (List.mem_of_getElem? (i := 122) rfl) rfl
theorem q221 : (.methodLink RX7 109 yJ9_min_7cf53 : Cond) ∈ TBG := tbt_2 (List.mem_of_getElem? (i := 124) rfl) rfl
theorem q222 : (.static yJ9_min_7cf53 : Cond) ∈ TBG := tbt_2 (List.mem_of_getElem? (i := 125) rfl) rfl
theorem q223 : (.code yJ9_min_7cf53 cJ9_min_7cf53 2 (some .int) : Cond) ∈ TBG := tbt_2 (List.mem_of_getElem? (i := 126) rfl) rfl
theorem q224 : (.methodLink RX7 114 yX3_isKept : Cond) ∈ TBG := tbt_2 (List.mem_of_getElem? (i := 127) rfl) rfl
theorem q225 : (.instanceMethod yX3_isKept : Cond) ∈ TBG := tbt_2 (List.mem_of_getElem? (i := 128) rfl) rfl
theorem q226 : (.selects RX3 yX3_isKept yX3_isKept : Cond) ∈ TBG := tbt_2 (List.mem_of_getElem? (i := 129) rfl) rfl
theorem q227 : (.code yX3_isKept cX3_isKept 1 (some .boolean) : Cond) ∈ TBG := tbt_2 (List.mem_of_getElem? (i := 130) rfl) rfl
theorem q228 : (.methodLink RX3 28 yX3_examine : Cond) ∈ TBG := tbt_2 (List.mem_of_getElem? (i := 131) rfl) rfl
theorem q229 : (.instanceMethod yX3_examine : Cond) ∈ TBG := tbt_2 (List.mem_of_getElem? (i := 132) rfl) rfl
theorem q230 : (.selects RX3 yX3_examine yX3_examine : Cond) ∈ TBG := tbt_2 (List.mem_of_getElem? (i := 133) rfl) rfl
theorem q231 : (.code yX3_examine cX3_examine 4 none : Cond) ∈ TBG := tbt_2 (List.mem_of_getElem? (i := 134) rfl) rfl
theorem q232 : (.methodLink RX3 39 yX3_isGreater : Cond) ∈ TBG := tbt_2 (List.mem_of_getElem? (i := 135) rfl) rfl
theorem q233 : (.instanceMethod yX3_isGreater : Cond) ∈ TBG := tbt_2 (List.mem_of_getElem? (i := 137) rfl) rfl
theorem q234 : (.code yX3_isGreater cX3_isGreater 4 (some .boolean) : Cond) ∈ TBG := tbt_2 (List.mem_of_getElem? (i := 138) rfl) rfl
theorem q235 : (.methodLink RX3 47 yX5_numberAt : Cond) ∈ TBG := tbt_2 (List.mem_of_getElem? (i := 139) rfl) rfl
theorem q236 : (.methodLink RX3 43 yX3_note : Cond) ∈ TBG := tbt_2 (List.mem_of_getElem? (i := 140) rfl) rfl
theorem q237 : (.instanceMethod yX3_note : Cond) ∈ TBG := tbt_2 (List.mem_of_getElem? (i := 142) rfl) rfl
theorem q238 : (.code yX3_note cX3_note 4 none : Cond) ∈ TBG := tbt_2 (List.mem_of_getElem? (i := 143) rfl) rfl
theorem q239 : (.methodLink RL 121 yX7_mend : Cond) ∈ TBG := tbt_2 (List.mem_of_getElem? (i := 144) rfl) rfl
theorem q240 : (.instanceMethod yX7_mend : Cond) ∈ TBG := tbt_2 (List.mem_of_getElem? (i := 145) rfl) rfl
theorem q241 : (.selects RX7 yX7_mend yX7_mend : Cond) ∈ TBG := tbt_2 (List.mem_of_getElem? (i := 146) rfl) rfl
theorem q242 : (.code yX7_mend cX7_mend 2 (some .int) : Cond) ∈ TBG := tbt_2 (List.mem_of_getElem? (i := 147) rfl) rfl
theorem q243 : (.methodLink RX7 118 yX3_examine : Cond) ∈ TBG := tbt_2 (List.mem_of_getElem? (i := 148) rfl) rfl
theorem q244 : (.methodLink RL 23 yX7_find : Cond) ∈ TBG := tbt_2 (List.mem_of_getElem? (i := 149) rfl) rfl
theorem q245 : (.instanceMethod yX7_find : Cond) ∈ TBG := tbt_2 (List.mem_of_getElem? (i := 150) rfl) rfl
theorem q246 : (.selects RX7 yX7_find yX7_find : Cond) ∈ TBG := tbt_2 (List.mem_of_getElem? (i := 151) rfl) rfl
theorem q247 : (.code yX7_find cX7_find 3 (some .int) : Cond) ∈ TBG := tbt_2 (List.mem_of_getElem? (i := 152) rfl) rfl
theorem q248 : (.methodLink RX7 136 yX7_isWay : Cond) ∈ TBG := tbt_2 (List.mem_of_getElem? (i := 153) rfl) rfl
theorem q249 : (.static yX7_isWay : Cond) ∈ TBG := tbt_2 (List.mem_of_getElem? (i := 154) rfl) rfl
theorem q250 : (.code yX7_isWay cX7_isWay 1 (some .boolean) : Cond) ∈ TBG := tbt_2 (List.mem_of_getElem? (i := 155) rfl) rfl
theorem q251 : (.methodLink RX7 142 yX7_isOpen : Cond) ∈ TBG := tbt_2 (List.mem_of_getElem? (i := 157) rfl) rfl
theorem q252 : (.instanceMethod yX7_isOpen : Cond) ∈ TBG := tbt_2 (List.mem_of_getElem? (i := 159) rfl) rfl
theorem q253 : (.code yX7_isOpen cX7_isOpen 2 (some .boolean) : Cond) ∈ TBG := tbt_2 (List.mem_of_getElem? (i := 160) rfl) rfl
theorem q254 : (.classLink RX7 145 "java/lang/IllegalStateException" : Cond) ∈ TBG := tbt_2 (List.mem_of_getElem? (i := 161) rfl) rfl
theorem q255 : (.instantiable "java/lang/IllegalStateException" 6 : Cond) ∈ TBG := tbt_2 (List.mem_of_getElem? (i := 162) rfl) rfl
theorem q256 : (.castable "java/lang/IllegalStateException" "java/lang/IllegalStateException" : Cond) ∈ lw_tbl := tbl_2 (List.mem_of_getElem? (i := 163) rfl)
theorem q257 : (.selects "java/lang/IllegalStateException" (⟨"java/lang/Throwable", "fillInStackTrace", "(I)Ljava/lang/Throwable;"⟩ : MethodName) (⟨"java/lang/Throwable", "fillInStackTrace", "(I)Ljava/lang/Throwable;"⟩ : MethodName) : Cond) ∈ TBG := tbt_2 (List.mem_of_getElem? (i := 164) rfl) rfl
theorem q258 : (.methodLink RX7 149 (⟨"java/lang/IllegalStateException", "<init>", "(Ljava/lang/String;)V"⟩ : MethodName) : Cond) ∈ TBG := tbt_2 (List.mem_of_getElem? (i := 171) rfl) rfl
theorem q259 : (.instanceMethod (⟨"java/lang/IllegalStateException", "<init>", "(Ljava/lang/String;)V"⟩ : MethodName) : Cond) ∈ TBG := tbt_2 (List.mem_of_getElem? (i := 172) rfl) rfl
theorem q260 : (.code (⟨"java/lang/IllegalStateException", "<init>", "(Ljava/lang/String;)V"⟩ : MethodName) prog_13_method_2_code 2 none : Cond) ∈ TBG := tbt_2 (List.mem_of_getElem? (i := 173) rfl) rfl
theorem q261 : (.methodLink "java/lang/IllegalStateException" 7 (⟨"java/lang/RuntimeException", "<init>", "(Ljava/lang/String;)V"⟩ : MethodName) : Cond) ∈ TBG := tbt_2 (List.mem_of_getElem? (i := 174) rfl) rfl
theorem q262 : (.methodLink RX7 150 yX1_seek : Cond) ∈ TBG := tbt_2 (List.mem_of_getElem? (i := 177) rfl) rfl
theorem q263 : (.instanceMethod yX1_seek : Cond) ∈ TBG := tbt_2 (List.mem_of_getElem? (i := 178) rfl) rfl
theorem q264 : (.selects RX1 yX1_seek yX1_seek : Cond) ∈ TBG := tbt_2 (List.mem_of_getElem? (i := 179) rfl) rfl
theorem q265 : (.code yX1_seek cX1_seek 3 none : Cond) ∈ TBG := tbt_2 (List.mem_of_getElem? (i := 180) rfl) rfl
theorem q266 : (.methodLink RX1 35 yX1_leaveAllColumns : Cond) ∈ TBG := tbt_2 (List.mem_of_getElem? (i := 181) rfl) rfl
theorem q267 : (.instanceMethod yX1_leaveAllColumns : Cond) ∈ TBG := tbt_2 (List.mem_of_getElem? (i := 183) rfl) rfl
theorem q268 : (.code yX1_leaveAllColumns cX1_leaveAllColumns 2 none : Cond) ∈ TBG := tbt_2 (List.mem_of_getElem? (i := 184) rfl) rfl
theorem q269 : (.methodLinkNest RX1 60 yX7_setIn RX7 : Cond) ∈ lw_tbl := tbl_2 (List.mem_of_getElem? (i := 185) rfl)
theorem q270 : (.methodLink RX1 46 yX1_halve : Cond) ∈ TBG := tbt_2 (List.mem_of_getElem? (i := 186) rfl) rfl
theorem q271 : (.static yX1_halve : Cond) ∈ TBG := tbt_2 (List.mem_of_getElem? (i := 187) rfl) rfl
theorem q272 : (.code yX1_halve cX1_halve 8 none : Cond) ∈ TBG := tbt_2 (List.mem_of_getElem? (i := 188) rfl) rfl
theorem q273 : (.methodLink RX1 76 yX1_leftmostLeast : Cond) ∈ TBG := tbt_2 (List.mem_of_getElem? (i := 189) rfl) rfl
theorem q274 : (.instanceMethod yX1_leftmostLeast : Cond) ∈ TBG := tbt_2 (List.mem_of_getElem? (i := 191) rfl) rfl
theorem q275 : (.code yX1_leftmostLeast cX1_leftmostLeast 11 (some .int) : Cond) ∈ TBG := tbt_2 (List.mem_of_getElem? (i := 192) rfl) rfl
theorem q276 : (.methodLinkNest RX1 64 yX7_numberIn RX7 : Cond) ∈ lw_tbl := tbl_2 (List.mem_of_getElem? (i := 193) rfl)
theorem q277 : (.static yX7_numberIn : Cond) ∈ TBG := tbt_2 (List.mem_of_getElem? (i := 194) rfl) rfl
theorem q278 : (.code yX7_numberIn cX7_numberIn 2 (some .int) : Cond) ∈ TBG := tbt_2 (List.mem_of_getElem? (i := 195) rfl) rfl
theorem q279 : (.methodLink RX1 87 yX1_columnLeft : Cond) ∈ TBG := tbt_2 (List.mem_of_getElem? (i := 196) rfl) rfl
theorem q280 : (.instanceMethod yX1_columnLeft : Cond) ∈ TBG := tbt_2 (List.mem_of_getElem? (i := 198) rfl) rfl
theorem q281 : (.code yX1_columnLeft cX1_columnLeft 3 (some .int) : Cond) ∈ TBG := tbt_2 (List.mem_of_getElem? (i := 199) rfl) rfl
theorem q282 : (.methodLinkNest RX1 100 yX7_isFromTo RX7 : Cond) ∈ lw_tbl := tbl_2 (List.mem_of_getElem? (i := 200) rfl)
theorem q283 : (.methodLink RX1 97 yX1_look : Cond) ∈ TBG := tbt_2 (List.mem_of_getElem? (i := 201) rfl) rfl
theorem q284 : (.instanceMethod yX1_look : Cond) ∈ TBG := tbt_2 (List.mem_of_getElem? (i := 203) rfl) rfl
theorem q285 : (.code yX1_look cX1_look 3 (some .int) : Cond) ∈ TBG := tbt_2 (List.mem_of_getElem? (i := 204) rfl) rfl
theorem q286 : (.methodLink RX1 104 yX5_numberAt : Cond) ∈ TBG := tbt_2 (List.mem_of_getElem? (i := 205) rfl) rfl
theorem q287 : (.methodLink RX1 80 yX1_setPlace : Cond) ∈ TBG := tbt_2 (List.mem_of_getElem? (i := 206) rfl) rfl
theorem q288 : (.instanceMethod yX1_setPlace : Cond) ∈ TBG := tbt_2 (List.mem_of_getElem? (i := 208) rfl) rfl
theorem q289 : (.code yX1_setPlace cX1_setPlace 3 none : Cond) ∈ TBG := tbt_2 (List.mem_of_getElem? (i := 209) rfl) rfl
theorem q290 : (.methodLink RX1 50 yX1_pileColumns : Cond) ∈ TBG := tbt_2 (List.mem_of_getElem? (i := 210) rfl) rfl
theorem q291 : (.instanceMethod yX1_pileColumns : Cond) ∈ TBG := tbt_2 (List.mem_of_getElem? (i := 212) rfl) rfl
theorem q292 : (.code yX1_pileColumns cX1_pileColumns 7 none : Cond) ∈ TBG := tbt_2 (List.mem_of_getElem? (i := 213) rfl) rfl
theorem q293 : (.methodLink RX1 84 yX1_rowsAt : Cond) ∈ TBG := tbt_2 (List.mem_of_getElem? (i := 214) rfl) rfl
theorem q294 : (.instanceMethod yX1_rowsAt : Cond) ∈ TBG := tbt_2 (List.mem_of_getElem? (i := 216) rfl) rfl
theorem q295 : (.code yX1_rowsAt cX1_rowsAt 2 (some .int) : Cond) ∈ TBG := tbt_2 (List.mem_of_getElem? (i := 217) rfl) rfl
theorem q296 : (.methodLink RX1 90 yX1_heightAfterThrowing : Cond) ∈ TBG := tbt_2 (List.mem_of_getElem? (i := 218) rfl) rfl
theorem q297 : (.instanceMethod yX1_heightAfterThrowing : Cond) ∈ TBG := tbt_2 (List.mem_of_getElem? (i := 220) rfl) rfl
theorem q298 : (.code yX1_heightAfterThrowing cX1_heightAfterThrowing 8 (some .int) : Cond) ∈ TBG := tbt_2 (List.mem_of_getElem? (i := 221) rfl) rfl
theorem q299 : (.methodLink RX1 94 yX1_rowAt : Cond) ∈ TBG := tbt_2 (List.mem_of_getElem? (i := 222) rfl) rfl
theorem q300 : (.instanceMethod yX1_rowAt : Cond) ∈ TBG := tbt_2 (List.mem_of_getElem? (i := 224) rfl) rfl
theorem q301 : (.code yX1_rowAt cX1_rowAt 3 (some .int) : Cond) ∈ TBG := tbt_2 (List.mem_of_getElem? (i := 225) rfl) rfl
theorem q302 : (.methodLink RX1 54 yX1_fillBetween : Cond) ∈ TBG := tbt_2 (List.mem_of_getElem? (i := 226) rfl) rfl
theorem q303 : (.instanceMethod yX1_fillBetween : Cond) ∈ TBG := tbt_2 (List.mem_of_getElem? (i := 228) rfl) rfl
theorem q304 : (.code yX1_fillBetween cX1_fillBetween 7 none : Cond) ∈ TBG := tbt_2 (List.mem_of_getElem? (i := 229) rfl) rfl
theorem q305 : (.methodLink RX1 68 yX1_placeBy : Cond) ∈ TBG := tbt_2 (List.mem_of_getElem? (i := 230) rfl) rfl
theorem q306 : (.instanceMethod yX1_placeBy : Cond) ∈ TBG := tbt_2 (List.mem_of_getElem? (i := 231) rfl) rfl
theorem q307 : (.selects RX1 yX1_placeBy yX1_placeBy : Cond) ∈ TBG := tbt_2 (List.mem_of_getElem? (i := 232) rfl) rfl
theorem q308 : (.code yX1_placeBy cX1_placeBy 3 (some .int) : Cond) ∈ TBG := tbt_2 (List.mem_of_getElem? (i := 233) rfl) rfl
theorem q309 : (.methodLink RX1 57 yX1_lookAtAll : Cond) ∈ TBG := tbt_2 (List.mem_of_getElem? (i := 234) rfl) rfl
theorem q310 : (.instanceMethod yX1_lookAtAll : Cond) ∈ TBG := tbt_2 (List.mem_of_getElem? (i := 236) rfl) rfl
theorem q311 : (.code yX1_lookAtAll cX1_lookAtAll 2 none : Cond) ∈ TBG := tbt_2 (List.mem_of_getElem? (i := 237) rfl) rfl
theorem q312 : (.methodLink RX7 154 yX1_looksBy : Cond) ∈ TBG := tbt_2 (List.mem_of_getElem? (i := 238) rfl) rfl
theorem q313 : (.instanceMethod yX1_looksBy : Cond) ∈ TBG := tbt_2 (List.mem_of_getElem? (i := 239) rfl) rfl
theorem q314 : (.selects RX1 yX1_looksBy yX1_looksBy : Cond) ∈ TBG := tbt_3 (List.mem_of_getElem? (i := 0) rfl) rfl
theorem q315 : (.code yX1_looksBy cX1_looksBy 2 (some .int) : Cond) ∈ TBG := tbt_3 (List.mem_of_getElem? (i := 1) rfl) rfl
theorem q316 : (.methodLink RL 27 yX7_weigh : Cond) ∈ TBG := tbt_3 (List.mem_of_getElem? (i := 2) rfl) rfl
theorem q317 : (.instanceMethod yX7_weigh : Cond) ∈ TBG := tbt_3 (List.mem_of_getElem? (i := 3) rfl) rfl
theorem q318 : (.selects RX7 yX7_weigh yX7_weigh : Cond) ∈ TBG := tbt_3 (List.mem_of_getElem? (i := 4) rfl) rfl
theorem q319 : (.code yX7_weigh cX7_weigh 2 (some .int) : Cond) ∈ TBG := tbt_3 (List.mem_of_getElem? (i := 5) rfl) rfl
theorem q320 : (.methodLink RX7 171 yX5_addWeight : Cond) ∈ TBG := tbt_3 (List.mem_of_getElem? (i := 8) rfl) rfl
theorem q321 : (.instanceMethod yX5_addWeight : Cond) ∈ TBG := tbt_3 (List.mem_of_getElem? (i := 9) rfl) rfl
theorem q322 : (.selects RX5 yX5_addWeight yX5_addWeight : Cond) ∈ TBG := tbt_3 (List.mem_of_getElem? (i := 10) rfl) rfl
theorem q323 : (.code yX5_addWeight cX5_addWeight 2 none : Cond) ∈ TBG := tbt_3 (List.mem_of_getElem? (i := 11) rfl) rfl
theorem q324 : (.methodLink RL 40 yX7_keep : Cond) ∈ TBG := tbt_3 (List.mem_of_getElem? (i := 12) rfl) rfl
theorem q325 : (.instanceMethod yX7_keep : Cond) ∈ TBG := tbt_3 (List.mem_of_getElem? (i := 13) rfl) rfl
theorem q326 : (.selects RX7 yX7_keep yX7_keep : Cond) ∈ TBG := tbt_3 (List.mem_of_getElem? (i := 14) rfl) rfl
theorem q327 : (.code yX7_keep cX7_keep 2 (some .int) : Cond) ∈ TBG := tbt_3 (List.mem_of_getElem? (i := 15) rfl) rfl
theorem q328 : (.methodLink RX7 211 yX7_slotAt : Cond) ∈ TBG := tbt_3 (List.mem_of_getElem? (i := 17) rfl) rfl
theorem q329 : (.instanceMethod yX7_slotAt : Cond) ∈ TBG := tbt_3 (List.mem_of_getElem? (i := 19) rfl) rfl
theorem q330 : (.code yX7_slotAt cX7_slotAt 2 (some (.object "LeastRows$Slot")) : Cond) ∈ TBG := tbt_3 (List.mem_of_getElem? (i := 20) rfl) rfl
theorem q331 : (.methodLink RX7 215 yX4_fillFrom : Cond) ∈ TBG := tbt_3 (List.mem_of_getElem? (i := 21) rfl) rfl
theorem q332 : (.instanceMethod yX4_fillFrom : Cond) ∈ TBG := tbt_3 (List.mem_of_getElem? (i := 22) rfl) rfl
theorem q333 : (.selects RX4 yX4_fillFrom yX4_fillFrom : Cond) ∈ TBG := tbt_3 (List.mem_of_getElem? (i := 23) rfl) rfl
theorem q334 : (.code yX4_fillFrom cX4_fillFrom 2 none : Cond) ∈ TBG := tbt_3 (List.mem_of_getElem? (i := 24) rfl) rfl
theorem q335 : (.methodLink RX4 20 yX5_copyFrom : Cond) ∈ TBG := tbt_3 (List.mem_of_getElem? (i := 25) rfl) rfl
theorem q336 : (.methodLink RL 43 yX7_goBack : Cond) ∈ TBG := tbt_3 (List.mem_of_getElem? (i := 26) rfl) rfl
theorem q337 : (.instanceMethod yX7_goBack : Cond) ∈ TBG := tbt_3 (List.mem_of_getElem? (i := 27) rfl) rfl
theorem q338 : (.selects RX7 yX7_goBack yX7_goBack : Cond) ∈ TBG := tbt_3 (List.mem_of_getElem? (i := 28) rfl) rfl
theorem q339 : (.code yX7_goBack cX7_goBack 3 (some .int) : Cond) ∈ TBG := tbt_3 (List.mem_of_getElem? (i := 29) rfl) rfl
theorem q340 : (.methodLink RX7 227 yX5_copyFrom : Cond) ∈ TBG := tbt_3 (List.mem_of_getElem? (i := 31) rfl) rfl
theorem q341 : (.methodLink RL 46 yX7_undo : Cond) ∈ TBG := tbt_3 (List.mem_of_getElem? (i := 32) rfl) rfl
theorem q342 : (.instanceMethod yX7_undo : Cond) ∈ TBG := tbt_3 (List.mem_of_getElem? (i := 33) rfl) rfl
theorem q343 : (.selects RX7 yX7_undo yX7_undo : Cond) ∈ TBG := tbt_3 (List.mem_of_getElem? (i := 34) rfl) rfl
theorem q344 : (.code yX7_undo cX7_undo 1 (some .int) : Cond) ∈ TBG := tbt_3 (List.mem_of_getElem? (i := 35) rfl) rfl
theorem q345 : (.methodLink RX7 235 yX2_latest : Cond) ∈ TBG := tbt_3 (List.mem_of_getElem? (i := 37) rfl) rfl
theorem q346 : (.instanceMethod yX2_latest : Cond) ∈ TBG := tbt_3 (List.mem_of_getElem? (i := 38) rfl) rfl
theorem q347 : (.selects RX2 yX2_latest yX2_latest : Cond) ∈ TBG := tbt_3 (List.mem_of_getElem? (i := 39) rfl) rfl
theorem q348 : (.code yX2_latest cX2_latest 1 (some (.object "LeastRows$State")) : Cond) ∈ TBG := tbt_3 (List.mem_of_getElem? (i := 40) rfl) rfl
theorem q349 : (.methodLink RL 61 yX7_count : Cond) ∈ TBG := tbt_3 (List.mem_of_getElem? (i := 41) rfl) rfl
theorem q350 : (.instanceMethod yX7_count : Cond) ∈ TBG := tbt_3 (List.mem_of_getElem? (i := 42) rfl) rfl
theorem q351 : (.selects RX7 yX7_count yX7_count : Cond) ∈ TBG := tbt_3 (List.mem_of_getElem? (i := 43) rfl) rfl
theorem q352 : (.code yX7_count cX7_count 2 (some .int) : Cond) ∈ TBG := tbt_3 (List.mem_of_getElem? (i := 44) rfl) rfl
theorem q353 : (.methodLink RX7 251 yX7_counted : Cond) ∈ TBG := tbt_3 (List.mem_of_getElem? (i := 46) rfl) rfl
theorem q354 : (.instanceMethod yX7_counted : Cond) ∈ TBG := tbt_3 (List.mem_of_getElem? (i := 48) rfl) rfl
theorem q355 : (.code yX7_counted cX7_counted 2 (some .int) : Cond) ∈ TBG := tbt_3 (List.mem_of_getElem? (i := 49) rfl) rfl
theorem q356 : (.methodLink RX7 314 yX5_weightsTogether : Cond) ∈ TBG := tbt_3 (List.mem_of_getElem? (i := 50) rfl) rfl
theorem q357 : (.instanceMethod yX5_weightsTogether : Cond) ∈ TBG := tbt_3 (List.mem_of_getElem? (i := 51) rfl) rfl
theorem q358 : (.selects RX5 yX5_weightsTogether yX5_weightsTogether : Cond) ∈ TBG := tbt_3 (List.mem_of_getElem? (i := 52) rfl) rfl
theorem q359 : (.code yX5_weightsTogether cX5_weightsTogether 3 (some .int) : Cond) ∈ TBG := tbt_3 (List.mem_of_getElem? (i := 53) rfl) rfl
theorem q360 : (.methodLink RX5 49 yX5_weightAt : Cond) ∈ TBG := tbt_3 (List.mem_of_getElem? (i := 54) rfl) rfl
theorem q361 : (.instanceMethod yX5_weightAt : Cond) ∈ TBG := tbt_3 (List.mem_of_getElem? (i := 55) rfl) rfl
theorem q362 : (.selects RX5 yX5_weightAt yX5_weightAt : Cond) ∈ TBG := tbt_3 (List.mem_of_getElem? (i := 56) rfl) rfl
theorem q363 : (.code yX5_weightAt cX5_weightAt 2 (some .int) : Cond) ∈ TBG := tbt_3 (List.mem_of_getElem? (i := 57) rfl) rfl
theorem q364 : (.methodLinkNest RX5 45 yX7_numberIn RX7 : Cond) ∈ lw_tbl := tbl_3 (List.mem_of_getElem? (i := 58) rfl)
theorem q365 : (.methodLink RX7 317 yX1_placesGoneBack : Cond) ∈ TBG := tbt_3 (List.mem_of_getElem? (i := 59) rfl) rfl
theorem q366 : (.instanceMethod yX1_placesGoneBack : Cond) ∈ TBG := tbt_3 (List.mem_of_getElem? (i := 60) rfl) rfl
theorem q367 : (.selects RX1 yX1_placesGoneBack yX1_placesGoneBack : Cond) ∈ TBG := tbt_3 (List.mem_of_getElem? (i := 61) rfl) rfl
theorem q368 : (.code yX1_placesGoneBack cX1_placesGoneBack 3 (some .int) : Cond) ∈ TBG := tbt_3 (List.mem_of_getElem? (i := 62) rfl) rfl
theorem q369 : (.methodLink RL 213 yL_part : Cond) ∈ TBG := tbt_3 (List.mem_of_getElem? (i := 63) rfl) rfl
theorem q370 : (.static yL_part : Cond) ∈ TBG := tbt_3 (List.mem_of_getElem? (i := 64) rfl) rfl
theorem q371 : (.code yL_part cL_part 2 (some .int) : Cond) ∈ TBG := tbt_3 (List.mem_of_getElem? (i := 65) rfl) rfl
theorem q372 : (.constant RL 7 (2147483647) : Cond) ∈ TBG := tbt_3 (List.mem_of_getElem? (i := 66) rfl) rfl
theorem q373 : (.methodLink RL 209 yL_drawn : Cond) ∈ TBG := tbt_3 (List.mem_of_getElem? (i := 67) rfl) rfl
theorem q374 : (.static yL_drawn : Cond) ∈ TBG := tbt_3 (List.mem_of_getElem? (i := 68) rfl) rfl
theorem q375 : (.code yL_drawn cL_drawn 2 (some .int) : Cond) ∈ TBG := tbt_3 (List.mem_of_getElem? (i := 69) rfl) rfl
theorem q376 : (.constant RL 8 (2654435) : Cond) ∈ TBG := tbt_3 (List.mem_of_getElem? (i := 70) rfl) rfl
theorem q377 : (.methodLink RL 97 yL_call : Cond) ∈ TBG := tbt_3 (List.mem_of_getElem? (i := 71) rfl) rfl
theorem q378 : (.static yL_call : Cond) ∈ TBG := tbt_3 (List.mem_of_getElem? (i := 72) rfl) rfl
theorem q379 : (.codeWith yL_call cL_call 7 (some .int) [((0), (274), (275), (76)), ((0), (274), (280), (78)), ((0), (274), (285), (80))] : Cond) ∈ TBG := tbt_3 (List.mem_of_getElem? (i := 73) rfl) rfl
theorem q380 : (.classLink RL 76 "java/lang/IndexOutOfBoundsException" : Cond) ∈ TBG := tbt_3 (List.mem_of_getElem? (i := 74) rfl) rfl
theorem q381 : (.classLink RL 78 "java/lang/IllegalArgumentException" : Cond) ∈ TBG := tbt_3 (List.mem_of_getElem? (i := 75) rfl) rfl
theorem q382 : (.classLink RL 80 "java/lang/IllegalStateException" : Cond) ∈ TBG := tbt_3 (List.mem_of_getElem? (i := 76) rfl) rfl
theorem q383 : (.methodLink RL 9 yX7_size : Cond) ∈ TBG := tbt_3 (List.mem_of_getElem? (i := 77) rfl) rfl
theorem q384 : (.instanceMethod yX7_size : Cond) ∈ TBG := tbt_3 (List.mem_of_getElem? (i := 78) rfl) rfl
theorem q385 : (.selects RX7 yX7_size yX7_size : Cond) ∈ TBG := tbt_3 (List.mem_of_getElem? (i := 79) rfl) rfl
theorem q386 : (.code yX7_size cX7_size 4 (some .int) : Cond) ∈ TBG := tbt_3 (List.mem_of_getElem? (i := 80) rfl) rfl
theorem q387 : (.methodLink RX7 77 yX5_sizeCode : Cond) ∈ TBG := tbt_3 (List.mem_of_getElem? (i := 82) rfl) rfl
theorem q388 : (.instanceMethod yX5_sizeCode : Cond) ∈ TBG := tbt_3 (List.mem_of_getElem? (i := 83) rfl) rfl
theorem q389 : (.selects RX5 yX5_sizeCode yX5_sizeCode : Cond) ∈ TBG := tbt_3 (List.mem_of_getElem? (i := 84) rfl) rfl
theorem q390 : (.code yX5_sizeCode cX5_sizeCode 1 (some .int) : Cond) ∈ TBG := tbt_3 (List.mem_of_getElem? (i := 85) rfl) rfl
theorem q391 : (.methodLink RL 30 yX7_unweigh : Cond) ∈ TBG := tbt_3 (List.mem_of_getElem? (i := 86) rfl) rfl
theorem q392 : (.instanceMethod yX7_unweigh : Cond) ∈ TBG := tbt_3 (List.mem_of_getElem? (i := 87) rfl) rfl
theorem q393 : (.selects RX7 yX7_unweigh yX7_unweigh : Cond) ∈ TBG := tbt_3 (List.mem_of_getElem? (i := 88) rfl) rfl
theorem q394 : (.code yX7_unweigh cX7_unweigh 1 (some .int) : Cond) ∈ TBG := tbt_3 (List.mem_of_getElem? (i := 89) rfl) rfl
theorem q395 : (.methodLink RX7 176 yX5_weightAt : Cond) ∈ TBG := tbt_3 (List.mem_of_getElem? (i := 91) rfl) rfl
theorem q396 : (.methodLink RL 34 yX7_append : Cond) ∈ TBG := tbt_3 (List.mem_of_getElem? (i := 92) rfl) rfl
theorem q397 : (.instanceMethod yX7_append : Cond) ∈ TBG := tbt_3 (List.mem_of_getElem? (i := 93) rfl) rfl
theorem q398 : (.selects RX7 yX7_append yX7_append : Cond) ∈ TBG := tbt_3 (List.mem_of_getElem? (i := 94) rfl) rfl
theorem q399 : (.code yX7_append cX7_append 2 (some .int) : Cond) ∈ TBG := tbt_3 (List.mem_of_getElem? (i := 95) rfl) rfl
theorem q400 : (.methodLink RX7 186 yX6_add : Cond) ∈ TBG := tbt_3 (List.mem_of_getElem? (i := 98) rfl) rfl
theorem q401 : (.instanceMethod yX6_add : Cond) ∈ TBG := tbt_3 (List.mem_of_getElem? (i := 99) rfl) rfl
theorem q402 : (.selects RX6 yX6_add yX6_add : Cond) ∈ TBG := tbt_3 (List.mem_of_getElem? (i := 100) rfl) rfl
theorem q403 : (.code yX6_add cX6_add 2 none : Cond) ∈ TBG := tbt_3 (List.mem_of_getElem? (i := 101) rfl) rfl
theorem q404 : (.methodLinkNest RX6 37 yX7_setIn RX7 : Cond) ∈ lw_tbl := tbl_3 (List.mem_of_getElem? (i := 102) rfl)
theorem q405 : (.methodLink RL 37 yX7_load : Cond) ∈ TBG := tbt_3 (List.mem_of_getElem? (i := 103) rfl) rfl
theorem q406 : (.instanceMethod yX7_load : Cond) ∈ TBG := tbt_3 (List.mem_of_getElem? (i := 104) rfl) rfl
theorem q407 : (.selects RX7 yX7_load yX7_load : Cond) ∈ TBG := tbt_3 (List.mem_of_getElem? (i := 105) rfl) rfl
theorem q408 : (.code yX7_load cX7_load 3 (some .int) : Cond) ∈ TBG := tbt_3 (List.mem_of_getElem? (i := 106) rfl) rfl
theorem q409 : (.methodLink RX7 195 yX6_tellsTable : Cond) ∈ TBG := tbt_3 (List.mem_of_getElem? (i := 107) rfl) rfl
theorem q410 : (.instanceMethod yX6_tellsTable : Cond) ∈ TBG := tbt_3 (List.mem_of_getElem? (i := 108) rfl) rfl
theorem q411 : (.selects RX6 yX6_tellsTable yX6_tellsTable : Cond) ∈ TBG := tbt_3 (List.mem_of_getElem? (i := 109) rfl) rfl
theorem q412 : (.code yX6_tellsTable cX6_tellsTable 1 (some .boolean) : Cond) ∈ TBG := tbt_3 (List.mem_of_getElem? (i := 110) rfl) rfl
theorem q413 : (.methodLink RX6 53 yX6_readToError : Cond) ∈ TBG := tbt_3 (List.mem_of_getElem? (i := 111) rfl) rfl
theorem q414 : (.instanceMethod yX6_readToError : Cond) ∈ TBG := tbt_3 (List.mem_of_getElem? (i := 112) rfl) rfl
theorem q415 : (.selects RX6 yX6_readToError yX6_readToError : Cond) ∈ TBG := tbt_3 (List.mem_of_getElem? (i := 113) rfl) rfl
theorem q416 : (.code yX6_readToError cX6_readToError 2 (some .int) : Cond) ∈ TBG := tbt_3 (List.mem_of_getElem? (i := 114) rfl) rfl
theorem q417 : (.methodLink RX6 45 yX6_codeAt : Cond) ∈ TBG := tbt_3 (List.mem_of_getElem? (i := 115) rfl) rfl
theorem q418 : (.instanceMethod yX6_codeAt : Cond) ∈ TBG := tbt_3 (List.mem_of_getElem? (i := 116) rfl) rfl
theorem q419 : (.selects RX6 yX6_codeAt yX6_codeAt : Cond) ∈ TBG := tbt_3 (List.mem_of_getElem? (i := 117) rfl) rfl
theorem q420 : (.code yX6_codeAt cX6_codeAt 2 (some .int) : Cond) ∈ TBG := tbt_3 (List.mem_of_getElem? (i := 118) rfl) rfl
theorem q421 : (.methodLinkNest RX6 41 yX7_numberIn RX7 : Cond) ∈ lw_tbl := tbl_3 (List.mem_of_getElem? (i := 119) rfl)
theorem q422 : (.methodLink RX6 49 yX6_takes : Cond) ∈ TBG := tbt_3 (List.mem_of_getElem? (i := 120) rfl) rfl
theorem q423 : (.instanceMethod yX6_takes : Cond) ∈ TBG := tbt_3 (List.mem_of_getElem? (i := 122) rfl) rfl
theorem q424 : (.code yX6_takes cX6_takes 2 (some .boolean) : Cond) ∈ TBG := tbt_3 (List.mem_of_getElem? (i := 123) rfl) rfl
theorem q425 : (.methodLinkNest RX6 61 yX7_isFromTo RX7 : Cond) ∈ lw_tbl := tbl_3 (List.mem_of_getElem? (i := 124) rfl)
theorem q426 : (.methodLink RX6 65 yX6_takesDigit : Cond) ∈ TBG := tbt_3 (List.mem_of_getElem? (i := 125) rfl) rfl
theorem q427 : (.instanceMethod yX6_takesDigit : Cond) ∈ TBG := tbt_3 (List.mem_of_getElem? (i := 127) rfl) rfl
theorem q428 : (.code yX6_takesDigit cX6_takesDigit 3 (some .boolean) : Cond) ∈ TBG := tbt_3 (List.mem_of_getElem? (i := 128) rfl) rfl
theorem q429 : (.methodLink RX6 68 yX6_takesComma : Cond) ∈ TBG := tbt_3 (List.mem_of_getElem? (i := 129) rfl) rfl
theorem q430 : (.instanceMethod yX6_takesComma : Cond) ∈ TBG := tbt_3 (List.mem_of_getElem? (i := 131) rfl) rfl
theorem q431 : (.code yX6_takesComma cX6_takesComma 1 (some .boolean) : Cond) ∈ TBG := tbt_3 (List.mem_of_getElem? (i := 132) rfl) rfl
theorem q432 : (.methodLink RX6 71 yX6_takesSlash : Cond) ∈ TBG := tbt_3 (List.mem_of_getElem? (i := 133) rfl) rfl
theorem q433 : (.instanceMethod yX6_takesSlash : Cond) ∈ TBG := tbt_3 (List.mem_of_getElem? (i := 135) rfl) rfl
theorem q434 : (.code yX6_takesSlash cX6_takesSlash 1 (some .boolean) : Cond) ∈ TBG := tbt_3 (List.mem_of_getElem? (i := 136) rfl) rfl
theorem q435 : (.methodLink RX6 57 yX6_isRowFull : Cond) ∈ TBG := tbt_3 (List.mem_of_getElem? (i := 137) rfl) rfl
theorem q436 : (.instanceMethod yX6_isRowFull : Cond) ∈ TBG := tbt_3 (List.mem_of_getElem? (i := 139) rfl) rfl
theorem q437 : (.code yX6_isRowFull cX6_isRowFull 1 (some .boolean) : Cond) ∈ TBG := tbt_3 (List.mem_of_getElem? (i := 140) rfl) rfl
theorem q438 : (.methodLink RX7 200 yX6_rowsTold : Cond) ∈ TBG := tbt_3 (List.mem_of_getElem? (i := 142) rfl) rfl
theorem q439 : (.instanceMethod yX6_rowsTold : Cond) ∈ TBG := tbt_3 (List.mem_of_getElem? (i := 143) rfl) rfl
theorem q440 : (.selects RX6 yX6_rowsTold yX6_rowsTold : Cond) ∈ TBG := tbt_3 (List.mem_of_getElem? (i := 144) rfl) rfl
theorem q441 : (.code yX6_rowsTold cX6_rowsTold 1 (some .int) : Cond) ∈ TBG := tbt_3 (List.mem_of_getElem? (i := 145) rfl) rfl
theorem q442 : (.methodLink RX7 203 yX6_columnsTold : Cond) ∈ TBG := tbt_3 (List.mem_of_getElem? (i := 146) rfl) rfl
theorem q443 : (.instanceMethod yX6_columnsTold : Cond) ∈ TBG := tbt_3 (List.mem_of_getElem? (i := 147) rfl) rfl
theorem q444 : (.selects RX6 yX6_columnsTold yX6_columnsTold : Cond) ∈ TBG := tbt_3 (List.mem_of_getElem? (i := 148) rfl) rfl
theorem q445 : (.code yX6_columnsTold cX6_columnsTold 1 (some .int) : Cond) ∈ TBG := tbt_3 (List.mem_of_getElem? (i := 149) rfl) rfl
theorem q446 : (.methodLink RX7 206 yX6_numberTold : Cond) ∈ TBG := tbt_3 (List.mem_of_getElem? (i := 150) rfl) rfl
theorem q447 : (.instanceMethod yX6_numberTold : Cond) ∈ TBG := tbt_3 (List.mem_of_getElem? (i := 151) rfl) rfl
theorem q448 : (.selects RX6 yX6_numberTold yX6_numberTold : Cond) ∈ TBG := tbt_3 (List.mem_of_getElem? (i := 152) rfl) rfl
theorem q449 : (.code yX6_numberTold cX6_numberTold 3 (some .int) : Cond) ∈ TBG := tbt_3 (List.mem_of_getElem? (i := 153) rfl) rfl
theorem q450 : (.methodLink RX7 189 yX6_clear : Cond) ∈ TBG := tbt_3 (List.mem_of_getElem? (i := 154) rfl) rfl
theorem q451 : (.instanceMethod yX6_clear : Cond) ∈ TBG := tbt_3 (List.mem_of_getElem? (i := 155) rfl) rfl
theorem q452 : (.selects RX6 yX6_clear yX6_clear : Cond) ∈ TBG := tbt_3 (List.mem_of_getElem? (i := 156) rfl) rfl
theorem q453 : (.code yX6_clear cX6_clear 1 none : Cond) ∈ TBG := tbt_3 (List.mem_of_getElem? (i := 157) rfl) rfl
theorem q454 : (.methodLink RL 49 yX7_cell : Cond) ∈ TBG := tbt_3 (List.mem_of_getElem? (i := 158) rfl) rfl
theorem q455 : (.instanceMethod yX7_cell : Cond) ∈ TBG := tbt_3 (List.mem_of_getElem? (i := 159) rfl) rfl
theorem q456 : (.selects RX7 yX7_cell yX7_cell : Cond) ∈ TBG := tbt_3 (List.mem_of_getElem? (i := 160) rfl) rfl
theorem q457 : (.code yX7_cell cX7_cell 3 (some .int) : Cond) ∈ TBG := tbt_3 (List.mem_of_getElem? (i := 161) rfl) rfl
theorem q458 : (.methodLink RL 52 yX7_place : Cond) ∈ TBG := tbt_3 (List.mem_of_getElem? (i := 162) rfl) rfl
theorem q459 : (.instanceMethod yX7_place : Cond) ∈ TBG := tbt_3 (List.mem_of_getElem? (i := 163) rfl) rfl
theorem q460 : (.selects RX7 yX7_place yX7_place : Cond) ∈ TBG := tbt_3 (List.mem_of_getElem? (i := 164) rfl) rfl
theorem q461 : (.code yX7_place cX7_place 3 (some .int) : Cond) ∈ TBG := tbt_3 (List.mem_of_getElem? (i := 165) rfl) rfl
theorem q462 : (.methodLink RX7 241 yX1_placeBy : Cond) ∈ TBG := tbt_3 (List.mem_of_getElem? (i := 167) rfl) rfl
theorem q463 : (.methodLink RL 55 yX7_looks : Cond) ∈ TBG := tbt_3 (List.mem_of_getElem? (i := 168) rfl) rfl
theorem q464 : (.instanceMethod yX7_looks : Cond) ∈ TBG := tbt_3 (List.mem_of_getElem? (i := 169) rfl) rfl
theorem q465 : (.selects RX7 yX7_looks yX7_looks : Cond) ∈ TBG := tbt_3 (List.mem_of_getElem? (i := 170) rfl) rfl
theorem q466 : (.code yX7_looks cX7_looks 2 (some .int) : Cond) ∈ TBG := tbt_3 (List.mem_of_getElem? (i := 171) rfl) rfl
theorem q467 : (.methodLink RL 58 yX7_witness : Cond) ∈ TBG := tbt_3 (List.mem_of_getElem? (i := 172) rfl) rfl
theorem q468 : (.instanceMethod yX7_witness : Cond) ∈ TBG := tbt_3 (List.mem_of_getElem? (i := 173) rfl) rfl
theorem q469 : (.selects RX7 yX7_witness yX7_witness : Cond) ∈ TBG := tbt_3 (List.mem_of_getElem? (i := 174) rfl) rfl
theorem q470 : (.code yX7_witness cX7_witness 2 (some .int) : Cond) ∈ TBG := tbt_3 (List.mem_of_getElem? (i := 175) rfl) rfl
theorem q471 : (.methodLink RX7 246 yX3_told : Cond) ∈ TBG := tbt_3 (List.mem_of_getElem? (i := 177) rfl) rfl
theorem q472 : (.instanceMethod yX3_told : Cond) ∈ TBG := tbt_3 (List.mem_of_getElem? (i := 178) rfl) rfl
theorem q473 : (.selects RX3 yX3_told yX3_told : Cond) ∈ TBG := tbt_3 (List.mem_of_getElem? (i := 179) rfl) rfl
theorem q474 : (.code yX3_told cX3_told 2 (some .int) : Cond) ∈ TBG := tbt_3 (List.mem_of_getElem? (i := 180) rfl) rfl
theorem q475 : (.methodLink RL 64 yX7_weight : Cond) ∈ TBG := tbt_3 (List.mem_of_getElem? (i := 181) rfl) rfl
theorem q476 : (.instanceMethod yX7_weight : Cond) ∈ TBG := tbt_3 (List.mem_of_getElem? (i := 182) rfl) rfl
theorem q477 : (.selects RX7 yX7_weight yX7_weight : Cond) ∈ TBG := tbt_3 (List.mem_of_getElem? (i := 183) rfl) rfl
theorem q478 : (.code yX7_weight cX7_weight 2 (some .int) : Cond) ∈ TBG := tbt_3 (List.mem_of_getElem? (i := 184) rfl) rfl
theorem q479 : (.methodLink RL 67 yX7_cost : Cond) ∈ TBG := tbt_3 (List.mem_of_getElem? (i := 186) rfl) rfl
theorem q480 : (.instanceMethod yX7_cost : Cond) ∈ TBG := tbt_3 (List.mem_of_getElem? (i := 187) rfl) rfl
theorem q481 : (.selects RX7 yX7_cost yX7_cost : Cond) ∈ TBG := tbt_3 (List.mem_of_getElem? (i := 188) rfl) rfl
theorem q482 : (.code yX7_cost cX7_cost 3 (some .int) : Cond) ∈ TBG := tbt_3 (List.mem_of_getElem? (i := 189) rfl) rfl
theorem q483 : (.methodLink RX7 258 yX0_planCuts : Cond) ∈ TBG := tbt_3 (List.mem_of_getElem? (i := 191) rfl) rfl
theorem q484 : (.instanceMethod yX0_planCuts : Cond) ∈ TBG := tbt_3 (List.mem_of_getElem? (i := 192) rfl) rfl
theorem q485 : (.selects RX0 yX0_planCuts yX0_planCuts : Cond) ∈ TBG := tbt_3 (List.mem_of_getElem? (i := 193) rfl) rfl
theorem q486 : (.code yX0_planCuts cX0_planCuts 4 none : Cond) ∈ TBG := tbt_3 (List.mem_of_getElem? (i := 194) rfl) rfl
theorem q487 : (.methodLink RX0 34 yX5_weightAt : Cond) ∈ TBG := tbt_3 (List.mem_of_getElem? (i := 195) rfl) rfl
theorem q488 : (.methodLinkNest RX0 38 yX7_setIn RX7 : Cond) ∈ lw_tbl := tbl_3 (List.mem_of_getElem? (i := 196) rfl)
theorem q489 : (.methodLink RX0 42 yX0_planLastCut : Cond) ∈ TBG := tbt_3 (List.mem_of_getElem? (i := 197) rfl) rfl
theorem q490 : (.instanceMethod yX0_planLastCut : Cond) ∈ TBG := tbt_3 (List.mem_of_getElem? (i := 199) rfl) rfl
theorem q491 : (.code yX0_planLastCut cX0_planLastCut 9 none : Cond) ∈ TBG := tbt_3 (List.mem_of_getElem? (i := 200) rfl) rfl
theorem q492 : (.constant RX0 53 (1000000000) : Cond) ∈ TBG := tbt_3 (List.mem_of_getElem? (i := 201) rfl) rfl
theorem q493 : (.methodLinkNest RX0 46 yX7_numberIn RX7 : Cond) ∈ lw_tbl := tbl_3 (List.mem_of_getElem? (i := 202) rfl)
theorem q494 : (.methodLink RX7 261 yX0_plannedCost : Cond) ∈ TBG := tbt_3 (List.mem_of_getElem? (i := 203) rfl) rfl
theorem q495 : (.instanceMethod yX0_plannedCost : Cond) ∈ TBG := tbt_3 (List.mem_of_getElem? (i := 204) rfl) rfl
theorem q496 : (.selects RX0 yX0_plannedCost yX0_plannedCost : Cond) ∈ TBG := tbt_3 (List.mem_of_getElem? (i := 205) rfl) rfl
theorem q497 : (.code yX0_plannedCost cX0_plannedCost 2 (some .int) : Cond) ∈ TBG := tbt_3 (List.mem_of_getElem? (i := 206) rfl) rfl
theorem q498 : (.methodLink RX7 264 yX0_tryAllCuts : Cond) ∈ TBG := tbt_3 (List.mem_of_getElem? (i := 207) rfl) rfl
theorem q499 : (.instanceMethod yX0_tryAllCuts : Cond) ∈ TBG := tbt_3 (List.mem_of_getElem? (i := 208) rfl) rfl
theorem q500 : (.selects RX0 yX0_tryAllCuts yX0_tryAllCuts : Cond) ∈ TBG := tbt_3 (List.mem_of_getElem? (i := 209) rfl) rfl
theorem q501 : (.code yX0_tryAllCuts cX0_tryAllCuts 2 none : Cond) ∈ TBG := tbt_3 (List.mem_of_getElem? (i := 210) rfl) rfl
theorem q502 : (.methodLink RX0 54 yX0_tryNextPart : Cond) ∈ TBG := tbt_3 (List.mem_of_getElem? (i := 211) rfl) rfl
theorem q503 : (.static yX0_tryNextPart : Cond) ∈ TBG := tbt_3 (List.mem_of_getElem? (i := 212) rfl) rfl
theorem q504 : (.code yX0_tryNextPart cX0_tryNextPart 7 none : Cond) ∈ TBG := tbt_3 (List.mem_of_getElem? (i := 213) rfl) rfl
theorem q505 : (.methodLink RX0 58 yX0_triedCost : Cond) ∈ TBG := tbt_3 (List.mem_of_getElem? (i := 214) rfl) rfl
theorem q506 : (.instanceMethod yX0_triedCost : Cond) ∈ TBG := tbt_3 (List.mem_of_getElem? (i := 215) rfl) rfl
theorem q507 : (.selects RX0 yX0_triedCost yX0_triedCost : Cond) ∈ TBG := tbt_3 (List.mem_of_getElem? (i := 216) rfl) rfl
theorem q508 : (.code yX0_triedCost cX0_triedCost 2 (some .int) : Cond) ∈ TBG := tbt_3 (List.mem_of_getElem? (i := 217) rfl) rfl
theorem q509 : (.methodLink RX0 61 yJ9_min_7cf53 : Cond) ∈ TBG := tbt_3 (List.mem_of_getElem? (i := 218) rfl) rfl
theorem q510 : (.methodLink RX7 267 yX0_triedCost : Cond) ∈ TBG := tbt_3 (List.mem_of_getElem? (i := 219) rfl) rfl
theorem q511 : (.methodLink RL 70 yX7_cut : Cond) ∈ TBG := tbt_3 (List.mem_of_getElem? (i := 220) rfl) rfl
theorem q512 : (.instanceMethod yX7_cut : Cond) ∈ TBG := tbt_3 (List.mem_of_getElem? (i := 221) rfl) rfl
theorem q513 : (.selects RX7 yX7_cut yX7_cut : Cond) ∈ TBG := tbt_3 (List.mem_of_getElem? (i := 222) rfl) rfl
theorem q514 : (.code yX7_cut cX7_cut 3 (some .int) : Cond) ∈ TBG := tbt_3 (List.mem_of_getElem? (i := 223) rfl) rfl
theorem q515 : (.methodLink RX7 272 yX0_plannedCut : Cond) ∈ TBG := tbt_3 (List.mem_of_getElem? (i := 225) rfl) rfl
theorem q516 : (.instanceMethod yX0_plannedCut : Cond) ∈ TBG := tbt_3 (List.mem_of_getElem? (i := 226) rfl) rfl
theorem q517 : (.selects RX0 yX0_plannedCut yX0_plannedCut : Cond) ∈ TBG := tbt_3 (List.mem_of_getElem? (i := 227) rfl) rfl
theorem q518 : (.code yX0_plannedCut cX0_plannedCut 5 (some .int) : Cond) ∈ TBG := tbt_3 (List.mem_of_getElem? (i := 228) rfl) rfl
theorem q519 : (.methodLink RL 73 yX7_fewestParts : Cond) ∈ TBG := tbt_3 (List.mem_of_getElem? (i := 229) rfl) rfl
theorem q520 : (.instanceMethod yX7_fewestParts : Cond) ∈ TBG := tbt_3 (List.mem_of_getElem? (i := 230) rfl) rfl
theorem q521 : (.selects RX7 yX7_fewestParts yX7_fewestParts : Cond) ∈ TBG := tbt_3 (List.mem_of_getElem? (i := 231) rfl) rfl
theorem q522 : (.code yX7_fewestParts cX7_fewestParts 2 (some .int) : Cond) ∈ TBG := tbt_3 (List.mem_of_getElem? (i := 232) rfl) rfl
theorem q523 : (.constant RX7 275 (999999) : Cond) ∈ TBG := tbt_3 (List.mem_of_getElem? (i := 233) rfl) rfl
theorem q524 : (.methodLink RX7 278 yX0_fewestPartsFor : Cond) ∈ TBG := tbt_3 (List.mem_of_getElem? (i := 235) rfl) rfl
theorem q525 : (.instanceMethod yX0_fewestPartsFor : Cond) ∈ TBG := tbt_3 (List.mem_of_getElem? (i := 236) rfl) rfl
theorem q526 : (.selects RX0 yX0_fewestPartsFor yX0_fewestPartsFor : Cond) ∈ TBG := tbt_3 (List.mem_of_getElem? (i := 237) rfl) rfl
theorem q527 : (.code yX0_fewestPartsFor cX0_fewestPartsFor 3 (some .int) : Cond) ∈ TBG := tbt_3 (List.mem_of_getElem? (i := 238) rfl) rfl
theorem q528 : (.methodLink RX0 50 yX0_plannedCost : Cond) ∈ TBG := tbt_3 (List.mem_of_getElem? (i := 239) rfl) rfl
theorem q529 : (.methodLink RL 102 yL_seen : Cond) ∈ TBG := tbt_4 (List.mem_of_getElem? (i := 0) rfl) rfl
theorem q530 : (.static yL_seen : Cond) ∈ TBG := tbt_4 (List.mem_of_getElem? (i := 1) rfl) rfl
theorem q531 : (.code yL_seen cL_seen 4 (some .long) : Cond) ∈ TBG := tbt_4 (List.mem_of_getElem? (i := 2) rfl) rfl
theorem q532 : (.constantLong RL 82 (331) : Cond) ∈ TBG := tbt_4 (List.mem_of_getElem? (i := 3) rfl) rfl
theorem q533 : (.constantLong RL 84 (31) : Cond) ∈ TBG := tbt_4 (List.mem_of_getElem? (i := 4) rfl) rfl
theorem q534 : (.constantLong RL 86 (3) : Cond) ∈ TBG := tbt_4 (List.mem_of_getElem? (i := 5) rfl) rfl
theorem q535 : (.methodLink RL 88 yX7_bound : Cond) ∈ TBG := tbt_4 (List.mem_of_getElem? (i := 6) rfl) rfl
theorem q536 : (.instanceMethod yX7_bound : Cond) ∈ TBG := tbt_4 (List.mem_of_getElem? (i := 7) rfl) rfl
theorem q537 : (.selects RX7 yX7_bound yX7_bound : Cond) ∈ TBG := tbt_4 (List.mem_of_getElem? (i := 8) rfl) rfl
theorem q538 : (.code yX7_bound cX7_bound 3 (some .int) : Cond) ∈ TBG := tbt_4 (List.mem_of_getElem? (i := 9) rfl) rfl
theorem q539 : (.methodLink RL 117 yL_refused : Cond) ∈ TBG := tbt_4 (List.mem_of_getElem? (i := 10) rfl) rfl
theorem q540 : (.static yL_refused : Cond) ∈ TBG := tbt_4 (List.mem_of_getElem? (i := 11) rfl) rfl
theorem q541 : (.code yL_refused cL_refused 5 (some .boolean) : Cond) ∈ TBG := tbt_4 (List.mem_of_getElem? (i := 12) rfl) rfl
theorem q542 : (.methodLink RL 106 yL_refusesOne : Cond) ∈ TBG := tbt_4 (List.mem_of_getElem? (i := 13) rfl) rfl
theorem q543 : (.static yL_refusesOne : Cond) ∈ TBG := tbt_4 (List.mem_of_getElem? (i := 14) rfl) rfl
theorem q544 : (.code yL_refusesOne cL_refusesOne 5 (some .boolean) : Cond) ∈ TBG := tbt_4 (List.mem_of_getElem? (i := 15) rfl) rfl
theorem q545 : (.methodLink RL 92 yL_far : Cond) ∈ TBG := tbt_4 (List.mem_of_getElem? (i := 16) rfl) rfl
theorem q546 : (.static yL_far : Cond) ∈ TBG := tbt_4 (List.mem_of_getElem? (i := 17) rfl) rfl
theorem q547 : (.code yL_far cL_far 3 (some .int) : Cond) ∈ TBG := tbt_4 (List.mem_of_getElem? (i := 18) rfl) rfl
theorem q548 : (.constant RL 91 (-2147483648) : Cond) ∈ TBG := tbt_4 (List.mem_of_getElem? (i := 19) rfl) rfl
theorem q549 : (.constant RL 101 (999999) : Cond) ∈ TBG := tbt_4 (List.mem_of_getElem? (i := 20) rfl) rfl
theorem q550 : (.methodLink RL 199 yL_small : Cond) ∈ TBG := tbt_4 (List.mem_of_getElem? (i := 21) rfl) rfl
theorem q551 : (.static yL_small : Cond) ∈ TBG := tbt_4 (List.mem_of_getElem? (i := 22) rfl) rfl
theorem q552 : (.code yL_small cL_small 1 (some .boolean) : Cond) ∈ TBG := tbt_4 (List.mem_of_getElem? (i := 23) rfl) rfl
theorem q553 : (.methodLink RL 111 yX7_halfShare : Cond) ∈ TBG := tbt_4 (List.mem_of_getElem? (i := 24) rfl) rfl
theorem q554 : (.instanceMethod yX7_halfShare : Cond) ∈ TBG := tbt_4 (List.mem_of_getElem? (i := 25) rfl) rfl
theorem q555 : (.selects RX7 yX7_halfShare yX7_halfShare : Cond) ∈ TBG := tbt_4 (List.mem_of_getElem? (i := 26) rfl) rfl
theorem q556 : (.code yX7_halfShare cX7_halfShare 1 (some .double) : Cond) ∈ TBG := tbt_4 (List.mem_of_getElem? (i := 27) rfl) rfl
theorem q557 : (.methodLink RX7 281 yX1_shareOfHalves : Cond) ∈ TBG := tbt_4 (List.mem_of_getElem? (i := 28) rfl) rfl
theorem q558 : (.instanceMethod yX1_shareOfHalves : Cond) ∈ TBG := tbt_4 (List.mem_of_getElem? (i := 29) rfl) rfl
theorem q559 : (.selects RX1 yX1_shareOfHalves yX1_shareOfHalves : Cond) ∈ TBG := tbt_4 (List.mem_of_getElem? (i := 30) rfl) rfl
theorem q560 : (.code yX1_shareOfHalves cX1_shareOfHalves 2 (some .double) : Cond) ∈ TBG := tbt_4 (List.mem_of_getElem? (i := 31) rfl) rfl
theorem q561 : (.methodLink RX1 72 yX1_looksBy : Cond) ∈ TBG := tbt_4 (List.mem_of_getElem? (i := 32) rfl) rfl
theorem q562 : (.constantDouble RL 115 (4605493568939753472) : Cond) ∈ TBG := tbt_4 (List.mem_of_getElem? (i := 33) rfl) rfl
theorem q563 : (.constantDouble RL 124 (4604930618986332160) : Cond) ∈ TBG := tbt_4 (List.mem_of_getElem? (i := 34) rfl) rfl
theorem q564 : (.methodLink RL 203 yL_weights : Cond) ∈ TBG := tbt_4 (List.mem_of_getElem? (i := 35) rfl) rfl
theorem q565 : (.static yL_weights : Cond) ∈ TBG := tbt_4 (List.mem_of_getElem? (i := 36) rfl) rfl
theorem q566 : (.code yL_weights cL_weights 2 (some .boolean) : Cond) ∈ TBG := tbt_4 (List.mem_of_getElem? (i := 37) rfl) rfl
theorem q567 : (.constant RL 126 (58810) : Cond) ∈ TBG := tbt_4 (List.mem_of_getElem? (i := 38) rfl) rfl
theorem q568 : (.constant RL 127 (357604) : Cond) ∈ TBG := tbt_4 (List.mem_of_getElem? (i := 39) rfl) rfl
theorem q569 : (.constant RL 128 (58822) : Cond) ∈ TBG := tbt_4 (List.mem_of_getElem? (i := 40) rfl) rfl
theorem q570 : (.methodLink RL 206 yL_texts : Cond) ∈ TBG := tbt_4 (List.mem_of_getElem? (i := 41) rfl) rfl
theorem q571 : (.static yL_texts : Cond) ∈ TBG := tbt_4 (List.mem_of_getElem? (i := 42) rfl) rfl
theorem q572 : (.code yL_texts cL_texts 2 (some .boolean) : Cond) ∈ TBG := tbt_4 (List.mem_of_getElem? (i := 43) rfl) rfl
theorem q573 : (.constantLong RL 141 (211194883891) : Cond) ∈ TBG := tbt_4 (List.mem_of_getElem? (i := 44) rfl) rfl
theorem q574 : (.methodLink RL 143 yL_isError : Cond) ∈ TBG := tbt_4 (List.mem_of_getElem? (i := 45) rfl) rfl
theorem q575 : (.static yL_isError : Cond) ∈ TBG := tbt_4 (List.mem_of_getElem? (i := 46) rfl) rfl
theorem q576 : (.code yL_isError cL_isError 6 (some .boolean) : Cond) ∈ TBG := tbt_4 (List.mem_of_getElem? (i := 47) rfl) rfl
theorem q577 : (.methodLink RL 131 yX7_clearBuffer : Cond) ∈ TBG := tbt_4 (List.mem_of_getElem? (i := 48) rfl) rfl
theorem q578 : (.instanceMethod yX7_clearBuffer : Cond) ∈ TBG := tbt_4 (List.mem_of_getElem? (i := 49) rfl) rfl
theorem q579 : (.selects RX7 yX7_clearBuffer yX7_clearBuffer : Cond) ∈ TBG := tbt_4 (List.mem_of_getElem? (i := 50) rfl) rfl
theorem q580 : (.code yX7_clearBuffer cX7_clearBuffer 2 (some .int) : Cond) ∈ TBG := tbt_4 (List.mem_of_getElem? (i := 51) rfl) rfl
theorem q581 : (.methodLink RL 134 yL_types : Cond) ∈ TBG := tbt_4 (List.mem_of_getElem? (i := 52) rfl) rfl
theorem q582 : (.static yL_types : Cond) ∈ TBG := tbt_4 (List.mem_of_getElem? (i := 53) rfl) rfl
theorem q583 : (.code yL_types cL_types 6 (some .boolean) : Cond) ∈ TBG := tbt_4 (List.mem_of_getElem? (i := 54) rfl) rfl
theorem q584 : (.constantLong RL 129 (255) : Cond) ∈ TBG := tbt_4 (List.mem_of_getElem? (i := 55) rfl) rfl
theorem q585 : (.methodLink RL 138 yX7_firstError : Cond) ∈ TBG := tbt_4 (List.mem_of_getElem? (i := 56) rfl) rfl
theorem q586 : (.instanceMethod yX7_firstError : Cond) ∈ TBG := tbt_4 (List.mem_of_getElem? (i := 57) rfl) rfl
theorem q587 : (.selects RX7 yX7_firstError yX7_firstError : Cond) ∈ TBG := tbt_4 (List.mem_of_getElem? (i := 58) rfl) rfl
theorem q588 : (.code yX7_firstError cX7_firstError 1 (some .int) : Cond) ∈ TBG := tbt_4 (List.mem_of_getElem? (i := 59) rfl) rfl
theorem q589 : (.methodLink RX7 192 yX6_readToError : Cond) ∈ TBG := tbt_4 (List.mem_of_getElem? (i := 60) rfl) rfl
theorem q590 : (.constantLong RL 147 (54065890276143) : Cond) ∈ TBG := tbt_4 (List.mem_of_getElem? (i := 61) rfl) rfl
theorem q591 : (.constantLong RL 149 (3543262185137124396) : Cond) ∈ TBG := tbt_4 (List.mem_of_getElem? (i := 62) rfl) rfl
theorem q592 : (.constantLong RL 151 (825176620) : Cond) ∈ TBG := tbt_4 (List.mem_of_getElem? (i := 63) rfl) rfl
theorem q593 : (.constantLong RL 153 (12337) : Cond) ∈ TBG := tbt_4 (List.mem_of_getElem? (i := 64) rfl) rfl
theorem q594 : (.constantLong RL 155 (211261861936) : Cond) ∈ TBG := tbt_4 (List.mem_of_getElem? (i := 65) rfl) rfl
theorem q595 : (.constantLong RL 157 (12588) : Cond) ∈ TBG := tbt_4 (List.mem_of_getElem? (i := 66) rfl) rfl
theorem q596 : (.constantLong RL 159 (47) : Cond) ∈ TBG := tbt_4 (List.mem_of_getElem? (i := 67) rfl) rfl
theorem q597 : (.constantLong RL 161 (4123389851602005809) : Cond) ∈ TBG := tbt_4 (List.mem_of_getElem? (i := 68) rfl) rfl
theorem q598 : (.constantLong RL 163 (48) : Cond) ∈ TBG := tbt_4 (List.mem_of_getElem? (i := 69) rfl) rfl
theorem q599 : (.constantLong RL 165 (3222572) : Cond) ∈ TBG := tbt_4 (List.mem_of_getElem? (i := 70) rfl) rfl
theorem q600 : (.constantLong RL 167 (3223343) : Cond) ∈ TBG := tbt_4 (List.mem_of_getElem? (i := 71) rfl) rfl
theorem q601 : (.constantLong RL 169 (13840867910691960) : Cond) ∈ TBG := tbt_4 (List.mem_of_getElem? (i := 72) rfl) rfl
theorem q602 : (.constantLong RL 171 (3543262172252419116) : Cond) ∈ TBG := tbt_4 (List.mem_of_getElem? (i := 73) rfl) rfl
theorem q603 : (.constantLong RL 173 (3485494) : Cond) ∈ TBG := tbt_4 (List.mem_of_getElem? (i := 74) rfl) rfl
theorem q604 : (.constantLong RL 175 (11569) : Cond) ∈ TBG := tbt_4 (List.mem_of_getElem? (i := 75) rfl) rfl
theorem q605 : (.constantLong RL 177 (12603) : Cond) ∈ TBG := tbt_4 (List.mem_of_getElem? (i := 76) rfl) rfl
theorem q606 : (.constantLong RL 179 (52966345093168) : Cond) ∈ TBG := tbt_4 (List.mem_of_getElem? (i := 77) rfl) rfl
theorem q607 : (.constantLong RL 181 (3543262185137124405) : Cond) ∈ TBG := tbt_4 (List.mem_of_getElem? (i := 78) rfl) rfl
theorem q608 : (.constantLong RL 183 (3553080) : Cond) ∈ TBG := tbt_4 (List.mem_of_getElem? (i := 79) rfl) rfl
theorem q609 : (.constantLong RL 185 (3543261072707039532) : Cond) ∈ TBG := tbt_4 (List.mem_of_getElem? (i := 80) rfl) rfl
theorem q610 : (.constantLong RL 187 (13840863565261873) : Cond) ∈ TBG := tbt_4 (List.mem_of_getElem? (i := 81) rfl) rfl
theorem q611 : (.constantLong RL 189 (211194817585) : Cond) ∈ TBG := tbt_4 (List.mem_of_getElem? (i := 82) rfl) rfl
theorem q612 : (.constantLong RL 191 (3544105510522269999) : Cond) ∈ TBG := tbt_4 (List.mem_of_getElem? (i := 83) rfl) rfl
theorem q613 : (.constantLong RL 193 (3223345) : Cond) ∈ TBG := tbt_4 (List.mem_of_getElem? (i := 84) rfl) rfl
theorem q614 : (.constantLong RL 195 (14966772112370738) : Cond) ∈ TBG := tbt_4 (List.mem_of_getElem? (i := 85) rfl) rfl
theorem q615 : (.constantLong RL 197 (960051513) : Cond) ∈ TBG := tbt_4 (List.mem_of_getElem? (i := 86) rfl) rfl
theorem q616 : (.arrayClass .long : Cond) ∈ TBG := tbt_4 (List.mem_of_getElem? (i := 87) rfl) rfl
theorem q617 : (.selects "java/lang/Throwable" (⟨"java/lang/Throwable", "fillInStackTrace", "(I)Ljava/lang/Throwable;"⟩ : MethodName) (⟨"java/lang/Throwable", "fillInStackTrace", "(I)Ljava/lang/Throwable;"⟩ : MethodName) : Cond) ∈ TBG := tbs (List.mem_of_getElem? (i := 0) rfl) rfl
theorem q618 : (.selects RX2 yX2_stateAt yX2_stateAt : Cond) ∈ TBG := tbs (List.mem_of_getElem? (i := 1) rfl) rfl
theorem q619 : (.selects RX3 yX3_isGreater yX3_isGreater : Cond) ∈ TBG := tbs (List.mem_of_getElem? (i := 2) rfl) rfl
theorem q620 : (.selects RX3 yX3_note yX3_note : Cond) ∈ TBG := tbs (List.mem_of_getElem? (i := 3) rfl) rfl
theorem q621 : (.selects RX7 yX7_isOpen yX7_isOpen : Cond) ∈ TBG := tbs (List.mem_of_getElem? (i := 4) rfl) rfl
theorem q622 : (.selects RX1 yX1_leaveAllColumns yX1_leaveAllColumns : Cond) ∈ TBG := tbs (List.mem_of_getElem? (i := 5) rfl) rfl
theorem q623 : (.selects RX1 yX1_leftmostLeast yX1_leftmostLeast : Cond) ∈ TBG := tbs (List.mem_of_getElem? (i := 6) rfl) rfl
theorem q624 : (.selects RX1 yX1_columnLeft yX1_columnLeft : Cond) ∈ TBG := tbs (List.mem_of_getElem? (i := 7) rfl) rfl
theorem q625 : (.selects RX1 yX1_look yX1_look : Cond) ∈ TBG := tbs (List.mem_of_getElem? (i := 8) rfl) rfl
theorem q626 : (.selects RX1 yX1_setPlace yX1_setPlace : Cond) ∈ TBG := tbs (List.mem_of_getElem? (i := 9) rfl) rfl
theorem q627 : (.selects RX1 yX1_pileColumns yX1_pileColumns : Cond) ∈ TBG := tbs (List.mem_of_getElem? (i := 10) rfl) rfl
theorem q628 : (.selects RX1 yX1_rowsAt yX1_rowsAt : Cond) ∈ TBG := tbs (List.mem_of_getElem? (i := 11) rfl) rfl
theorem q629 : (.selects RX1 yX1_heightAfterThrowing yX1_heightAfterThrowing : Cond) ∈ TBG := tbs (List.mem_of_getElem? (i := 12) rfl) rfl
theorem q630 : (.selects RX1 yX1_rowAt yX1_rowAt : Cond) ∈ TBG := tbs (List.mem_of_getElem? (i := 13) rfl) rfl
theorem q631 : (.selects RX1 yX1_fillBetween yX1_fillBetween : Cond) ∈ TBG := tbs (List.mem_of_getElem? (i := 14) rfl) rfl
theorem q632 : (.selects RX1 yX1_lookAtAll yX1_lookAtAll : Cond) ∈ TBG := tbs (List.mem_of_getElem? (i := 15) rfl) rfl
theorem q633 : (.selects RX7 yX7_slotAt yX7_slotAt : Cond) ∈ TBG := tbs (List.mem_of_getElem? (i := 16) rfl) rfl
theorem q634 : (.selects RX7 yX7_counted yX7_counted : Cond) ∈ TBG := tbs (List.mem_of_getElem? (i := 17) rfl) rfl
theorem q635 : (.selects RX6 yX6_takes yX6_takes : Cond) ∈ TBG := tbs (List.mem_of_getElem? (i := 18) rfl) rfl
theorem q636 : (.selects RX6 yX6_takesDigit yX6_takesDigit : Cond) ∈ TBG := tbs (List.mem_of_getElem? (i := 19) rfl) rfl
theorem q637 : (.selects RX6 yX6_takesComma yX6_takesComma : Cond) ∈ TBG := tbs (List.mem_of_getElem? (i := 20) rfl) rfl
theorem q638 : (.selects RX6 yX6_takesSlash yX6_takesSlash : Cond) ∈ TBG := tbs (List.mem_of_getElem? (i := 21) rfl) rfl
theorem q639 : (.selects RX6 yX6_isRowFull yX6_isRowFull : Cond) ∈ TBG := tbs (List.mem_of_getElem? (i := 22) rfl) rfl
theorem q640 : (.selects RX0 yX0_planLastCut yX0_planLastCut : Cond) ∈ TBG := tbs (List.mem_of_getElem? (i := 23) rfl) rfl
def NWL : List Cond := [.methodLinkNest RX5 37 yX7_setIn RX7, .methodLinkNest RX7 41 yX6_init RX7, .methodLinkNest RX7 55 yX4_init RX7, .methodLinkNest RX5 41 yX7_isFromTo RX7, .methodLinkNest RX5 53 yX7_copyAll RX7, .methodLinkNest RX1 60 yX7_setIn RX7, .methodLinkNest RX1 64 yX7_numberIn RX7, .methodLinkNest RX1 100 yX7_isFromTo RX7, .methodLinkNest RX5 45 yX7_numberIn RX7, .methodLinkNest RX6 37 yX7_setIn RX7, .methodLinkNest RX6 41 yX7_numberIn RX7, .methodLinkNest RX6 61 yX7_isFromTo RX7, .methodLinkNest RX0 38 yX7_setIn RX7, .methodLinkNest RX0 46 yX7_numberIn RX7]
theorem NWL_in : ∀ w ∈ NWL, w ∈ lw_tbl := List.forall_mem_cons.mpr ⟨q30, List.forall_mem_cons.mpr ⟨q94, List.forall_mem_cons.mpr ⟨q121, List.forall_mem_cons.mpr ⟨q147, List.forall_mem_cons.mpr ⟨q206, List.forall_mem_cons.mpr ⟨q269, List.forall_mem_cons.mpr ⟨q276, List.forall_mem_cons.mpr ⟨q282, List.forall_mem_cons.mpr ⟨q364, List.forall_mem_cons.mpr ⟨q404, List.forall_mem_cons.mpr ⟨q421, List.forall_mem_cons.mpr ⟨q425, List.forall_mem_cons.mpr ⟨q488, List.forall_mem_cons.mpr ⟨q493, fun _ h => absurd h List.not_mem_nil⟩⟩⟩⟩⟩⟩⟩⟩⟩⟩⟩⟩⟩⟩
theorem nw0 : (.methodLinkNest RX5 37 yX7_setIn RX7 : Cond) ∈ NWL := List.mem_of_getElem? (i := 0) rfl
theorem nw1 : (.methodLinkNest RX7 41 yX6_init RX7 : Cond) ∈ NWL := List.mem_of_getElem? (i := 1) rfl
theorem nw2 : (.methodLinkNest RX7 55 yX4_init RX7 : Cond) ∈ NWL := List.mem_of_getElem? (i := 2) rfl
theorem nw3 : (.methodLinkNest RX5 41 yX7_isFromTo RX7 : Cond) ∈ NWL := List.mem_of_getElem? (i := 3) rfl
theorem nw4 : (.methodLinkNest RX5 53 yX7_copyAll RX7 : Cond) ∈ NWL := List.mem_of_getElem? (i := 4) rfl
theorem nw5 : (.methodLinkNest RX1 60 yX7_setIn RX7 : Cond) ∈ NWL := List.mem_of_getElem? (i := 5) rfl
theorem nw6 : (.methodLinkNest RX1 64 yX7_numberIn RX7 : Cond) ∈ NWL := List.mem_of_getElem? (i := 6) rfl
theorem nw7 : (.methodLinkNest RX1 100 yX7_isFromTo RX7 : Cond) ∈ NWL := List.mem_of_getElem? (i := 7) rfl
theorem nw8 : (.methodLinkNest RX5 45 yX7_numberIn RX7 : Cond) ∈ NWL := List.mem_of_getElem? (i := 8) rfl
theorem nw9 : (.methodLinkNest RX6 37 yX7_setIn RX7 : Cond) ∈ NWL := List.mem_of_getElem? (i := 9) rfl
theorem nw10 : (.methodLinkNest RX6 41 yX7_numberIn RX7 : Cond) ∈ NWL := List.mem_of_getElem? (i := 10) rfl
theorem nw11 : (.methodLinkNest RX6 61 yX7_isFromTo RX7 : Cond) ∈ NWL := List.mem_of_getElem? (i := 11) rfl
theorem nw12 : (.methodLinkNest RX0 38 yX7_setIn RX7 : Cond) ∈ NWL := List.mem_of_getElem? (i := 12) rfl
theorem nw13 : (.methodLinkNest RX0 46 yX7_numberIn RX7 : Cond) ∈ NWL := List.mem_of_getElem? (i := 13) rfl
theorem ly0_0 : u_lay RX0 TX0 0 ∈ TBG := tbt_1 (List.mem_of_getElem? (i := 135) rfl) rfl
theorem ly0_1 : u_lay RX0 TX0 1 ∈ TBG := tbt_1 (List.mem_of_getElem? (i := 137) rfl) rfl
theorem ly0_2 : u_lay RX0 TX0 2 ∈ TBG := tbt_1 (List.mem_of_getElem? (i := 139) rfl) rfl
theorem ly0_3 : u_lay RX0 TX0 3 ∈ TBG := tbt_1 (List.mem_of_getElem? (i := 141) rfl) rfl
theorem ly0_4 : u_lay RX0 TX0 4 ∈ TBG := tbt_1 (List.mem_of_getElem? (i := 143) rfl) rfl
theorem ixX0 : ∀ w ∈ u_ws RX0 TX0 5, w ∈ TBG := by
  show ∀ w ∈ [u_lay RX0 TX0 0, u_lay RX0 TX0 1, u_lay RX0 TX0 2, u_lay RX0 TX0 3, u_lay RX0 TX0 4], w ∈ TBG
  exact List.forall_mem_cons.mpr ⟨ly0_0, List.forall_mem_cons.mpr ⟨ly0_1, List.forall_mem_cons.mpr ⟨ly0_2, List.forall_mem_cons.mpr ⟨ly0_3, List.forall_mem_cons.mpr ⟨ly0_4, fun _ h => absurd h List.not_mem_nil⟩⟩⟩⟩⟩
theorem ly1_0 : u_lay RX1 TX1 0 ∈ TBG := tbt_1 (List.mem_of_getElem? (i := 109) rfl) rfl
theorem ly1_1 : u_lay RX1 TX1 1 ∈ TBG := tbt_1 (List.mem_of_getElem? (i := 111) rfl) rfl
theorem ly1_2 : u_lay RX1 TX1 2 ∈ TBG := tbt_1 (List.mem_of_getElem? (i := 113) rfl) rfl
theorem ly1_3 : u_lay RX1 TX1 3 ∈ TBG := tbt_1 (List.mem_of_getElem? (i := 115) rfl) rfl
theorem ly1_4 : u_lay RX1 TX1 4 ∈ TBG := tbt_1 (List.mem_of_getElem? (i := 117) rfl) rfl
theorem ly1_5 : u_lay RX1 TX1 5 ∈ TBG := tbt_1 (List.mem_of_getElem? (i := 119) rfl) rfl
theorem ly1_6 : u_lay RX1 TX1 6 ∈ TBG := tbt_1 (List.mem_of_getElem? (i := 121) rfl) rfl
theorem ixX1 : ∀ w ∈ u_ws RX1 TX1 7, w ∈ TBG := by
  show ∀ w ∈ [u_lay RX1 TX1 0, u_lay RX1 TX1 1, u_lay RX1 TX1 2, u_lay RX1 TX1 3, u_lay RX1 TX1 4, u_lay RX1 TX1 5, u_lay RX1 TX1 6], w ∈ TBG
  exact List.forall_mem_cons.mpr ⟨ly1_0, List.forall_mem_cons.mpr ⟨ly1_1, List.forall_mem_cons.mpr ⟨ly1_2, List.forall_mem_cons.mpr ⟨ly1_3, List.forall_mem_cons.mpr ⟨ly1_4, List.forall_mem_cons.mpr ⟨ly1_5, List.forall_mem_cons.mpr ⟨ly1_6, fun _ h => absurd h List.not_mem_nil⟩⟩⟩⟩⟩⟩⟩
theorem ly2_0 : u_lay RX2 TX2 0 ∈ TBG := tbt_1 (List.mem_of_getElem? (i := 191) rfl) rfl
theorem ly2_1 : u_lay RX2 TX2 1 ∈ TBG := tbt_1 (List.mem_of_getElem? (i := 193) rfl) rfl
theorem ly2_2 : u_lay RX2 TX2 2 ∈ TBG := tbt_1 (List.mem_of_getElem? (i := 195) rfl) rfl
theorem ixX2 : ∀ w ∈ u_ws RX2 TX2 3, w ∈ TBG := by
  show ∀ w ∈ [u_lay RX2 TX2 0, u_lay RX2 TX2 1, u_lay RX2 TX2 2], w ∈ TBG
  exact List.forall_mem_cons.mpr ⟨ly2_0, List.forall_mem_cons.mpr ⟨ly2_1, List.forall_mem_cons.mpr ⟨ly2_2, fun _ h => absurd h List.not_mem_nil⟩⟩⟩
theorem ly3_0 : u_lay RX3 TX3 0 ∈ TBG := tbt_1 (List.mem_of_getElem? (i := 85) rfl) rfl
theorem ly3_1 : u_lay RX3 TX3 1 ∈ TBG := tbt_1 (List.mem_of_getElem? (i := 87) rfl) rfl
theorem ly3_2 : u_lay RX3 TX3 2 ∈ TBG := tbt_1 (List.mem_of_getElem? (i := 89) rfl) rfl
theorem ly3_3 : u_lay RX3 TX3 3 ∈ TBG := tbt_1 (List.mem_of_getElem? (i := 91) rfl) rfl
theorem ly3_4 : u_lay RX3 TX3 4 ∈ TBG := tbt_1 (List.mem_of_getElem? (i := 93) rfl) rfl
theorem ixX3 : ∀ w ∈ u_ws RX3 TX3 5, w ∈ TBG := by
  show ∀ w ∈ [u_lay RX3 TX3 0, u_lay RX3 TX3 1, u_lay RX3 TX3 2, u_lay RX3 TX3 3, u_lay RX3 TX3 4], w ∈ TBG
  exact List.forall_mem_cons.mpr ⟨ly3_0, List.forall_mem_cons.mpr ⟨ly3_1, List.forall_mem_cons.mpr ⟨ly3_2, List.forall_mem_cons.mpr ⟨ly3_3, List.forall_mem_cons.mpr ⟨ly3_4, fun _ h => absurd h List.not_mem_nil⟩⟩⟩⟩⟩
theorem ly4_0 : u_lay RX4 TX4 0 ∈ TBG := tbt_1 (List.mem_of_getElem? (i := 210) rfl) rfl
theorem ly4_1 : u_lay RX4 TX4 1 ∈ TBG := tbt_1 (List.mem_of_getElem? (i := 212) rfl) rfl
theorem ixX4 : ∀ w ∈ u_ws RX4 TX4 2, w ∈ TBG := by
  show ∀ w ∈ [u_lay RX4 TX4 0, u_lay RX4 TX4 1], w ∈ TBG
  exact List.forall_mem_cons.mpr ⟨ly4_0, List.forall_mem_cons.mpr ⟨ly4_1, fun _ h => absurd h List.not_mem_nil⟩⟩
theorem ly5_0 : u_lay RX5 TX5 0 ∈ TBG := tbt_1 (List.mem_of_getElem? (i := 52) rfl) rfl
theorem ly5_1 : u_lay RX5 TX5 1 ∈ TBG := tbt_1 (List.mem_of_getElem? (i := 54) rfl) rfl
theorem ly5_2 : u_lay RX5 TX5 2 ∈ TBG := tbt_1 (List.mem_of_getElem? (i := 56) rfl) rfl
theorem ly5_3 : u_lay RX5 TX5 3 ∈ TBG := tbt_1 (List.mem_of_getElem? (i := 58) rfl) rfl
theorem ly5_4 : u_lay RX5 TX5 4 ∈ TBG := tbt_1 (List.mem_of_getElem? (i := 60) rfl) rfl
theorem ly5_5 : u_lay RX5 TX5 5 ∈ TBG := tbt_1 (List.mem_of_getElem? (i := 62) rfl) rfl
theorem ly5_6 : u_lay RX5 TX5 6 ∈ TBG := tbt_1 (List.mem_of_getElem? (i := 64) rfl) rfl
theorem ly5_7 : u_lay RX5 TX5 7 ∈ TBG := tbt_1 (List.mem_of_getElem? (i := 66) rfl) rfl
theorem ixX5 : ∀ w ∈ u_ws RX5 TX5 8, w ∈ TBG := by
  show ∀ w ∈ [u_lay RX5 TX5 0, u_lay RX5 TX5 1, u_lay RX5 TX5 2, u_lay RX5 TX5 3, u_lay RX5 TX5 4, u_lay RX5 TX5 5, u_lay RX5 TX5 6, u_lay RX5 TX5 7], w ∈ TBG
  exact List.forall_mem_cons.mpr ⟨ly5_0, List.forall_mem_cons.mpr ⟨ly5_1, List.forall_mem_cons.mpr ⟨ly5_2, List.forall_mem_cons.mpr ⟨ly5_3, List.forall_mem_cons.mpr ⟨ly5_4, List.forall_mem_cons.mpr ⟨ly5_5, List.forall_mem_cons.mpr ⟨ly5_6, List.forall_mem_cons.mpr ⟨ly5_7, fun _ h => absurd h List.not_mem_nil⟩⟩⟩⟩⟩⟩⟩⟩
theorem ly6_0 : u_lay RX6 TX6 0 ∈ TBG := tbt_1 (List.mem_of_getElem? (i := 161) rfl) rfl
theorem ly6_1 : u_lay RX6 TX6 1 ∈ TBG := tbt_1 (List.mem_of_getElem? (i := 163) rfl) rfl
theorem ly6_2 : u_lay RX6 TX6 2 ∈ TBG := tbt_1 (List.mem_of_getElem? (i := 165) rfl) rfl
theorem ly6_3 : u_lay RX6 TX6 3 ∈ TBG := tbt_1 (List.mem_of_getElem? (i := 167) rfl) rfl
theorem ly6_4 : u_lay RX6 TX6 4 ∈ TBG := tbt_1 (List.mem_of_getElem? (i := 169) rfl) rfl
theorem ly6_5 : u_lay RX6 TX6 5 ∈ TBG := tbt_1 (List.mem_of_getElem? (i := 171) rfl) rfl
theorem ly6_6 : u_lay RX6 TX6 6 ∈ TBG := tbt_1 (List.mem_of_getElem? (i := 173) rfl) rfl
theorem ly6_7 : u_lay RX6 TX6 7 ∈ TBG := tbt_1 (List.mem_of_getElem? (i := 175) rfl) rfl
theorem ixX6 : ∀ w ∈ u_ws RX6 TX6 8, w ∈ TBG := by
  show ∀ w ∈ [u_lay RX6 TX6 0, u_lay RX6 TX6 1, u_lay RX6 TX6 2, u_lay RX6 TX6 3, u_lay RX6 TX6 4, u_lay RX6 TX6 5, u_lay RX6 TX6 6, u_lay RX6 TX6 7], w ∈ TBG
  exact List.forall_mem_cons.mpr ⟨ly6_0, List.forall_mem_cons.mpr ⟨ly6_1, List.forall_mem_cons.mpr ⟨ly6_2, List.forall_mem_cons.mpr ⟨ly6_3, List.forall_mem_cons.mpr ⟨ly6_4, List.forall_mem_cons.mpr ⟨ly6_5, List.forall_mem_cons.mpr ⟨ly6_6, List.forall_mem_cons.mpr ⟨ly6_7, fun _ h => absurd h List.not_mem_nil⟩⟩⟩⟩⟩⟩⟩⟩
theorem ly7_0 : u_lay RX7 TX7 0 ∈ TBG := tbt_1 (List.mem_of_getElem? (i := 223) rfl) rfl
theorem ly7_1 : u_lay RX7 TX7 1 ∈ TBG := tbt_1 (List.mem_of_getElem? (i := 225) rfl) rfl
theorem ly7_2 : u_lay RX7 TX7 2 ∈ TBG := tbt_1 (List.mem_of_getElem? (i := 227) rfl) rfl
theorem ly7_3 : u_lay RX7 TX7 3 ∈ TBG := tbt_1 (List.mem_of_getElem? (i := 229) rfl) rfl
theorem ly7_4 : u_lay RX7 TX7 4 ∈ TBG := tbt_1 (List.mem_of_getElem? (i := 231) rfl) rfl
theorem ly7_5 : u_lay RX7 TX7 5 ∈ TBG := tbt_1 (List.mem_of_getElem? (i := 233) rfl) rfl
theorem ly7_6 : u_lay RX7 TX7 6 ∈ TBG := tbt_1 (List.mem_of_getElem? (i := 235) rfl) rfl
theorem ly7_7 : u_lay RX7 TX7 7 ∈ TBG := tbt_1 (List.mem_of_getElem? (i := 237) rfl) rfl
theorem ixX7 : ∀ w ∈ u_ws RX7 TX7 8, w ∈ TBG := by
  show ∀ w ∈ [u_lay RX7 TX7 0, u_lay RX7 TX7 1, u_lay RX7 TX7 2, u_lay RX7 TX7 3, u_lay RX7 TX7 4, u_lay RX7 TX7 5, u_lay RX7 TX7 6, u_lay RX7 TX7 7], w ∈ TBG
  exact List.forall_mem_cons.mpr ⟨ly7_0, List.forall_mem_cons.mpr ⟨ly7_1, List.forall_mem_cons.mpr ⟨ly7_2, List.forall_mem_cons.mpr ⟨ly7_3, List.forall_mem_cons.mpr ⟨ly7_4, List.forall_mem_cons.mpr ⟨ly7_5, List.forall_mem_cons.mpr ⟨ly7_6, List.forall_mem_cons.mpr ⟨ly7_7, fun _ h => absurd h List.not_mem_nil⟩⟩⟩⟩⟩⟩⟩⟩
