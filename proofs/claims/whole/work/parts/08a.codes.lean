/-! The words that say the code of each method stand in the tables. -/
theorem wb_tb1 {w : Cond} (h : w ∈ tables_1_1) (hg : goodWord w = true) : w ∈ wb_TB := by
  refine List.mem_filter.mpr ⟨List.mem_append_right _ ?_, hg⟩
  unfold tables_1
  exact List.mem_append_left _ h
theorem wb_tb2 {w : Cond} (h : w ∈ tables_1_2) (hg : goodWord w = true) : w ∈ wb_TB := by
  refine List.mem_filter.mpr ⟨List.mem_append_right _ ?_, hg⟩
  unfold tables_1
  exact List.mem_append_right _ (List.mem_append_left _ h)
theorem wb_tb3 {w : Cond} (h : w ∈ tables_1_3) (hg : goodWord w = true) : w ∈ wb_TB := by
  refine List.mem_filter.mpr ⟨List.mem_append_right _ ?_, hg⟩
  unfold tables_1
  exact List.mem_append_right _ (List.mem_append_right _ (List.mem_append_left _ h))
theorem wb_tb4 {w : Cond} (h : w ∈ tables_1_4) (hg : goodWord w = true) : w ∈ wb_TB := by
  refine List.mem_filter.mpr ⟨List.mem_append_right _ ?_, hg⟩
  unfold tables_1
  exact List.mem_append_right _ (List.mem_append_right _ (List.mem_append_right _ (List.mem_append_left _ h)))
theorem wb_tb5 {w : Cond} (h : w ∈ tables_1_5) (hg : goodWord w = true) : w ∈ wb_TB := by
  refine List.mem_filter.mpr ⟨List.mem_append_right _ ?_, hg⟩
  unfold tables_1
  exact List.mem_append_right _ (List.mem_append_right _ (List.mem_append_right _ (List.mem_append_right _ (List.mem_append_left _ h))))
theorem wb_tb6 {w : Cond} (h : w ∈ tables_1_6) (hg : goodWord w = true) : w ∈ wb_TB := by
  refine List.mem_filter.mpr ⟨List.mem_append_right _ ?_, hg⟩
  unfold tables_1
  exact List.mem_append_right _ (List.mem_append_right _ (List.mem_append_right _ (List.mem_append_right _ (List.mem_append_right _ (List.mem_append_left _ h)))))
theorem wb_tb7 {w : Cond} (h : w ∈ tables_1_7) (hg : goodWord w = true) : w ∈ wb_TB := by
  refine List.mem_filter.mpr ⟨List.mem_append_right _ ?_, hg⟩
  unfold tables_1
  exact List.mem_append_right _ (List.mem_append_right _ (List.mem_append_right _ (List.mem_append_right _ (List.mem_append_right _ (List.mem_append_right _ (List.mem_append_left _ h))))))
theorem wb_tb8 {w : Cond} (h : w ∈ tables_1_8) (hg : goodWord w = true) : w ∈ wb_TB := by
  refine List.mem_filter.mpr ⟨List.mem_append_right _ ?_, hg⟩
  unfold tables_1
  exact List.mem_append_right _ (List.mem_append_right _ (List.mem_append_right _ (List.mem_append_right _ (List.mem_append_right _ (List.mem_append_right _ (List.mem_append_right _ (h)))))))
set_option maxRecDepth 100000 in
theorem wb_cod_2 : Cond.code (wb_y 2) (wb_b 2) (wb_pn 2) (wb_r 2) ∈ wb_TB := wb_tb2 (List.mem_of_getElem? (i := 96) rfl) rfl
set_option maxRecDepth 100000 in
theorem wb_cod_3 : Cond.code (wb_y 3) (wb_b 3) (wb_pn 3) (wb_r 3) ∈ wb_TB := wb_tb2 (List.mem_of_getElem? (i := 233) rfl) rfl
set_option maxRecDepth 100000 in
theorem wb_cod_4 : Cond.code (wb_y 4) (wb_b 4) (wb_pn 4) (wb_r 4) ∈ wb_TB := wb_tb5 (List.mem_of_getElem? (i := 149) rfl) rfl
set_option maxRecDepth 100000 in
theorem wb_cod_5 : Cond.code (wb_y 5) (wb_b 5) (wb_pn 5) (wb_r 5) ∈ wb_TB := wb_tb5 (List.mem_of_getElem? (i := 161) rfl) rfl
set_option maxRecDepth 100000 in
theorem wb_cod_6 : Cond.code (wb_y 6) (wb_b 6) (wb_pn 6) (wb_r 6) ∈ wb_TB := wb_tb5 (List.mem_of_getElem? (i := 165) rfl) rfl
set_option maxRecDepth 100000 in
theorem wb_cod_7 : Cond.code (wb_y 7) (wb_b 7) (wb_pn 7) (wb_r 7) ∈ wb_TB := wb_tb5 (List.mem_of_getElem? (i := 169) rfl) rfl
set_option maxRecDepth 100000 in
theorem wb_cod_8 : Cond.code (wb_y 8) (wb_b 8) (wb_pn 8) (wb_r 8) ∈ wb_TB := wb_tb2 (List.mem_of_getElem? (i := 123) rfl) rfl
set_option maxRecDepth 100000 in
theorem wb_cod_9 : Cond.code (wb_y 9) (wb_b 9) (wb_pn 9) (wb_r 9) ∈ wb_TB := wb_tb4 (List.mem_of_getElem? (i := 93) rfl) rfl
set_option maxRecDepth 100000 in
theorem wb_cod_10 : Cond.code (wb_y 10) (wb_b 10) (wb_pn 10) (wb_r 10) ∈ wb_TB := wb_tb5 (List.mem_of_getElem? (i := 86) rfl) rfl
set_option maxRecDepth 100000 in
theorem wb_cod_11 : Cond.code (wb_y 11) (wb_b 11) (wb_pn 11) (wb_r 11) ∈ wb_TB := wb_tb4 (List.mem_of_getElem? (i := 101) rfl) rfl
set_option maxRecDepth 100000 in
theorem wb_cod_12 : Cond.code (wb_y 12) (wb_b 12) (wb_pn 12) (wb_r 12) ∈ wb_TB := wb_tb4 (List.mem_of_getElem? (i := 106) rfl) rfl
set_option maxRecDepth 100000 in
theorem wb_cod_13 : Cond.code (wb_y 13) (wb_b 13) (wb_pn 13) (wb_r 13) ∈ wb_TB := wb_tb4 (List.mem_of_getElem? (i := 119) rfl) rfl
set_option maxRecDepth 100000 in
theorem wb_cod_14 : Cond.code (wb_y 14) (wb_b 14) (wb_pn 14) (wb_r 14) ∈ wb_TB := wb_tb4 (List.mem_of_getElem? (i := 125) rfl) rfl
set_option maxRecDepth 100000 in
theorem wb_cod_15 : Cond.code (wb_y 15) (wb_b 15) (wb_pn 15) (wb_r 15) ∈ wb_TB := wb_tb4 (List.mem_of_getElem? (i := 141) rfl) rfl
set_option maxRecDepth 100000 in
theorem wb_cod_16 : Cond.code (wb_y 16) (wb_b 16) (wb_pn 16) (wb_r 16) ∈ wb_TB := wb_tb4 (List.mem_of_getElem? (i := 129) rfl) rfl
set_option maxRecDepth 100000 in
theorem wb_cod_17 : Cond.code (wb_y 17) (wb_b 17) (wb_pn 17) (wb_r 17) ∈ wb_TB := wb_tb4 (List.mem_of_getElem? (i := 164) rfl) rfl
set_option maxRecDepth 100000 in
theorem wb_cod_18 : Cond.code (wb_y 18) (wb_b 18) (wb_pn 18) (wb_r 18) ∈ wb_TB := wb_tb5 (List.mem_of_getElem? (i := 31) rfl) rfl
set_option maxRecDepth 100000 in
theorem wb_cod_19 : Cond.code (wb_y 19) (wb_b 19) (wb_pn 19) (wb_r 19) ∈ wb_TB := wb_tb5 (List.mem_of_getElem? (i := 43) rfl) rfl
set_option maxRecDepth 100000 in
theorem wb_cod_20 : Cond.code (wb_y 20) (wb_b 20) (wb_pn 20) (wb_r 20) ∈ wb_TB := wb_tb5 (List.mem_of_getElem? (i := 19) rfl) rfl
set_option maxRecDepth 100000 in
theorem wb_cod_21 : Cond.code (wb_y 21) (wb_b 21) (wb_pn 21) (wb_r 21) ∈ wb_TB := wb_tb4 (List.mem_of_getElem? (i := 144) rfl) rfl
set_option maxRecDepth 100000 in
theorem wb_cod_22 : Cond.code (wb_y 22) (wb_b 22) (wb_pn 22) (wb_r 22) ∈ wb_TB := wb_tb4 (List.mem_of_getElem? (i := 133) rfl) rfl
set_option maxRecDepth 100000 in
theorem wb_cod_23 : Cond.code (wb_y 23) (wb_b 23) (wb_pn 23) (wb_r 23) ∈ wb_TB := wb_tb4 (List.mem_of_getElem? (i := 147) rfl) rfl
set_option maxRecDepth 100000 in
theorem wb_cod_24 : Cond.code (wb_y 24) (wb_b 24) (wb_pn 24) (wb_r 24) ∈ wb_TB := wb_tb4 (List.mem_of_getElem? (i := 137) rfl) rfl
set_option maxRecDepth 100000 in
theorem wb_cod_25 : Cond.code (wb_y 25) (wb_b 25) (wb_pn 25) (wb_r 25) ∈ wb_TB := wb_tb4 (List.mem_of_getElem? (i := 151) rfl) rfl
set_option maxRecDepth 100000 in
theorem wb_cod_26 : Cond.code (wb_y 26) (wb_b 26) (wb_pn 26) (wb_r 26) ∈ wb_TB := wb_tb4 (List.mem_of_getElem? (i := 155) rfl) rfl
set_option maxRecDepth 100000 in
theorem wb_cod_27 : Cond.code (wb_y 27) (wb_b 27) (wb_pn 27) (wb_r 27) ∈ wb_TB := wb_tb4 (List.mem_of_getElem? (i := 159) rfl) rfl
set_option maxRecDepth 100000 in
theorem wb_cod_28 : Cond.code (wb_y 28) (wb_b 28) (wb_pn 28) (wb_r 28) ∈ wb_TB := wb_tb4 (List.mem_of_getElem? (i := 170) rfl) rfl
set_option maxRecDepth 100000 in
theorem wb_cod_29 : Cond.code (wb_y 29) (wb_b 29) (wb_pn 29) (wb_r 29) ∈ wb_TB := wb_tb4 (List.mem_of_getElem? (i := 181) rfl) rfl
set_option maxRecDepth 100000 in
theorem wb_cod_30 : Cond.code (wb_y 30) (wb_b 30) (wb_pn 30) (wb_r 30) ∈ wb_TB := wb_tb4 (List.mem_of_getElem? (i := 173) rfl) rfl
set_option maxRecDepth 100000 in
theorem wb_cod_31 : Cond.code (wb_y 31) (wb_b 31) (wb_pn 31) (wb_r 31) ∈ wb_TB := wb_tb4 (List.mem_of_getElem? (i := 176) rfl) rfl
set_option maxRecDepth 100000 in
theorem wb_cod_32 : Cond.code (wb_y 32) (wb_b 32) (wb_pn 32) (wb_r 32) ∈ wb_TB := wb_tb2 (List.mem_of_getElem? (i := 194) rfl) rfl
set_option maxRecDepth 100000 in
theorem wb_cod_33 : Cond.code (wb_y 33) (wb_b 33) (wb_pn 33) (wb_r 33) ∈ wb_TB := wb_tb5 (List.mem_of_getElem? (i := 127) rfl) rfl
set_option maxRecDepth 100000 in
theorem wb_cod_34 : Cond.code (wb_y 34) (wb_b 34) (wb_pn 34) (wb_r 34) ∈ wb_TB := wb_tb5 (List.mem_of_getElem? (i := 132) rfl) rfl
set_option maxRecDepth 100000 in
theorem wb_cod_35 : Cond.code (wb_y 35) (wb_b 35) (wb_pn 35) (wb_r 35) ∈ wb_TB := wb_tb1 (List.mem_of_getElem? (i := 177) rfl) rfl
set_option maxRecDepth 100000 in
theorem wb_cod_36 : Cond.code (wb_y 36) (wb_b 36) (wb_pn 36) (wb_r 36) ∈ wb_TB := wb_tb1 (List.mem_of_getElem? (i := 209) rfl) rfl
set_option maxRecDepth 100000 in
theorem wb_cod_37 : Cond.code (wb_y 37) (wb_b 37) (wb_pn 37) (wb_r 37) ∈ wb_TB := wb_tb3 (List.mem_of_getElem? (i := 215) rfl) rfl
set_option maxRecDepth 100000 in
theorem wb_cod_38 : Cond.code (wb_y 38) (wb_b 38) (wb_pn 38) (wb_r 38) ∈ wb_TB := wb_tb3 (List.mem_of_getElem? (i := 231) rfl) rfl
set_option maxRecDepth 100000 in
theorem wb_cod_39 : Cond.code (wb_y 39) (wb_b 39) (wb_pn 39) (wb_r 39) ∈ wb_TB := wb_tb4 (List.mem_of_getElem? (i := 2) rfl) rfl
set_option maxRecDepth 100000 in
theorem wb_cod_40 : Cond.code (wb_y 40) (wb_b 40) (wb_pn 40) (wb_r 40) ∈ wb_TB := wb_tb4 (List.mem_of_getElem? (i := 30) rfl) rfl
set_option maxRecDepth 100000 in
theorem wb_cod_41 : Cond.code (wb_y 41) (wb_b 41) (wb_pn 41) (wb_r 41) ∈ wb_TB := wb_tb4 (List.mem_of_getElem? (i := 14) rfl) rfl
set_option maxRecDepth 100000 in
theorem wb_cod_42 : Cond.code (wb_y 42) (wb_b 42) (wb_pn 42) (wb_r 42) ∈ wb_TB := wb_tb4 (List.mem_of_getElem? (i := 19) rfl) rfl
set_option maxRecDepth 100000 in
theorem wb_cod_43 : Cond.code (wb_y 43) (wb_b 43) (wb_pn 43) (wb_r 43) ∈ wb_TB := wb_tb4 (List.mem_of_getElem? (i := 23) rfl) rfl
set_option maxRecDepth 100000 in
theorem wb_cod_44 : Cond.code (wb_y 44) (wb_b 44) (wb_pn 44) (wb_r 44) ∈ wb_TB := wb_tb4 (List.mem_of_getElem? (i := 26) rfl) rfl
set_option maxRecDepth 100000 in
theorem wb_cod_45 : Cond.code (wb_y 45) (wb_b 45) (wb_pn 45) (wb_r 45) ∈ wb_TB := wb_tb2 (List.mem_of_getElem? (i := 76) rfl) rfl
set_option maxRecDepth 100000 in
theorem wb_cod_46 : Cond.code (wb_y 46) (wb_b 46) (wb_pn 46) (wb_r 46) ∈ wb_TB := wb_tb2 (List.mem_of_getElem? (i := 229) rfl) rfl
set_option maxRecDepth 100000 in
theorem wb_cod_47 : Cond.code (wb_y 47) (wb_b 47) (wb_pn 47) (wb_r 47) ∈ wb_TB := wb_tb4 (List.mem_of_getElem? (i := 77) rfl) rfl
set_option maxRecDepth 100000 in
theorem wb_cod_48 : Cond.code (wb_y 48) (wb_b 48) (wb_pn 48) (wb_r 48) ∈ wb_TB := wb_tb4 (List.mem_of_getElem? (i := 211) rfl) rfl
set_option maxRecDepth 100000 in
theorem wb_cod_49 : Cond.code (wb_y 49) (wb_b 49) (wb_pn 49) (wb_r 49) ∈ wb_TB := wb_tb1 (List.mem_of_getElem? (i := 171) rfl) rfl
set_option maxRecDepth 100000 in
theorem wb_cod_50 : Cond.code (wb_y 50) (wb_b 50) (wb_pn 50) (wb_r 50) ∈ wb_TB := wb_tb1 (List.mem_of_getElem? (i := 205) rfl) rfl
set_option maxRecDepth 100000 in
theorem wb_cod_51 : Cond.code (wb_y 51) (wb_b 51) (wb_pn 51) (wb_r 51) ∈ wb_TB := wb_tb3 (List.mem_of_getElem? (i := 203) rfl) rfl
set_option maxRecDepth 100000 in
theorem wb_cod_52 : Cond.code (wb_y 52) (wb_b 52) (wb_pn 52) (wb_r 52) ∈ wb_TB := wb_tb4 (List.mem_of_getElem? (i := 10) rfl) rfl
set_option maxRecDepth 100000 in
theorem wb_cod_53 : Cond.code (wb_y 53) (wb_b 53) (wb_pn 53) (wb_r 53) ∈ wb_TB := wb_tb4 (List.mem_of_getElem? (i := 53) rfl) rfl
set_option maxRecDepth 100000 in
theorem wb_cod_54 : Cond.code (wb_y 54) (wb_b 54) (wb_pn 54) (wb_r 54) ∈ wb_TB := wb_tb4 (List.mem_of_getElem? (i := 57) rfl) rfl
set_option maxRecDepth 100000 in
theorem wb_cod_55 : Cond.code (wb_y 55) (wb_b 55) (wb_pn 55) (wb_r 55) ∈ wb_TB := wb_tb1 (List.mem_of_getElem? (i := 50) rfl) rfl
set_option maxRecDepth 100000 in
theorem wb_cod_56 : Cond.code (wb_y 56) (wb_b 56) (wb_pn 56) (wb_r 56) ∈ wb_TB := wb_tb3 (List.mem_of_getElem? (i := 71) rfl) rfl
set_option maxRecDepth 100000 in
theorem wb_cod_57 : Cond.code (wb_y 57) (wb_b 57) (wb_pn 57) (wb_r 57) ∈ wb_TB := wb_tb3 (List.mem_of_getElem? (i := 183) rfl) rfl
set_option maxRecDepth 100000 in
theorem wb_cod_58 : Cond.code (wb_y 58) (wb_b 58) (wb_pn 58) (wb_r 58) ∈ wb_TB := wb_tb3 (List.mem_of_getElem? (i := 195) rfl) rfl
set_option maxRecDepth 100000 in
theorem wb_cod_59 : Cond.code (wb_y 59) (wb_b 59) (wb_pn 59) (wb_r 59) ∈ wb_TB := wb_tb3 (List.mem_of_getElem? (i := 187) rfl) rfl
set_option maxRecDepth 100000 in
theorem wb_cod_60 : Cond.code (wb_y 60) (wb_b 60) (wb_pn 60) (wb_r 60) ∈ wb_TB := wb_tb3 (List.mem_of_getElem? (i := 191) rfl) rfl
set_option maxRecDepth 100000 in
theorem wb_cod_61 : Cond.code (wb_y 61) (wb_b 61) (wb_pn 61) (wb_r 61) ∈ wb_TB := wb_tb3 (List.mem_of_getElem? (i := 179) rfl) rfl
set_option maxRecDepth 100000 in
theorem wb_cod_62 : Cond.code (wb_y 62) (wb_b 62) (wb_pn 62) (wb_r 62) ∈ wb_TB := wb_tb3 (List.mem_of_getElem? (i := 199) rfl) rfl
set_option maxRecDepth 100000 in
theorem wb_cod_63 : Cond.code (wb_y 63) (wb_b 63) (wb_pn 63) (wb_r 63) ∈ wb_TB := wb_tb3 (List.mem_of_getElem? (i := 207) rfl) rfl
set_option maxRecDepth 100000 in
theorem wb_cod_64 : Cond.code (wb_y 64) (wb_b 64) (wb_pn 64) (wb_r 64) ∈ wb_TB := wb_tb4 (List.mem_of_getElem? (i := 6) rfl) rfl
set_option maxRecDepth 100000 in
theorem wb_cod_65 : Cond.code (wb_y 65) (wb_b 65) (wb_pn 65) (wb_r 65) ∈ wb_TB := wb_tb3 (List.mem_of_getElem? (i := 211) rfl) rfl
set_option maxRecDepth 100000 in
theorem wb_cod_66 : Cond.code (wb_y 66) (wb_b 66) (wb_pn 66) (wb_r 66) ∈ wb_TB := wb_tb3 (List.mem_of_getElem? (i := 219) rfl) rfl
set_option maxRecDepth 100000 in
theorem wb_cod_67 : Cond.code (wb_y 67) (wb_b 67) (wb_pn 67) (wb_r 67) ∈ wb_TB := wb_tb3 (List.mem_of_getElem? (i := 227) rfl) rfl
set_option maxRecDepth 100000 in
theorem wb_cod_68 : Cond.code (wb_y 68) (wb_b 68) (wb_pn 68) (wb_r 68) ∈ wb_TB := wb_tb3 (List.mem_of_getElem? (i := 223) rfl) rfl
set_option maxRecDepth 100000 in
theorem wb_cod_69 : Cond.code (wb_y 69) (wb_b 69) (wb_pn 69) (wb_r 69) ∈ wb_TB := wb_tb3 (List.mem_of_getElem? (i := 238) rfl) rfl
set_option maxRecDepth 100000 in
theorem wb_cod_70 : Cond.code (wb_y 70) (wb_b 70) (wb_pn 70) (wb_r 70) ∈ wb_TB := wb_tb3 (List.mem_of_getElem? (i := 234) rfl) rfl
set_option maxRecDepth 100000 in
theorem wb_cod_71 : Cond.code (wb_y 71) (wb_b 71) (wb_pn 71) (wb_r 71) ∈ wb_TB := wb_tb2 (List.mem_of_getElem? (i := 38) rfl) rfl
set_option maxRecDepth 100000 in
theorem wb_cod_72 : Cond.code (wb_y 72) (wb_b 72) (wb_pn 72) (wb_r 72) ∈ wb_TB := wb_tb4 (List.mem_of_getElem? (i := 49) rfl) rfl
set_option maxRecDepth 100000 in
theorem wb_cod_73 : Cond.code (wb_y 73) (wb_b 73) (wb_pn 73) (wb_r 73) ∈ wb_TB := wb_tb2 (List.mem_of_getElem? (i := 225) rfl) rfl
set_option maxRecDepth 100000 in
theorem wb_cod_74 : Cond.code (wb_y 74) (wb_b 74) (wb_pn 74) (wb_r 74) ∈ wb_TB := wb_tb2 (List.mem_of_getElem? (i := 218) rfl) rfl
set_option maxRecDepth 100000 in
theorem wb_cod_75 : Cond.code (wb_y 75) (wb_b 75) (wb_pn 75) (wb_r 75) ∈ wb_TB := wb_tb4 (List.mem_of_getElem? (i := 81) rfl) rfl
set_option maxRecDepth 100000 in
theorem wb_cod_76 : Cond.code (wb_y 76) (wb_b 76) (wb_pn 76) (wb_r 76) ∈ wb_TB := wb_tb4 (List.mem_of_getElem? (i := 185) rfl) rfl
set_option maxRecDepth 100000 in
theorem wb_cod_77 : Cond.code (wb_y 77) (wb_b 77) (wb_pn 77) (wb_r 77) ∈ wb_TB := wb_tb1 (List.mem_of_getElem? (i := 34) rfl) rfl
set_option maxRecDepth 100000 in
theorem wb_cod_78 : Cond.code (wb_y 78) (wb_b 78) (wb_pn 78) (wb_r 78) ∈ wb_TB := wb_tb3 (List.mem_of_getElem? (i := 55) rfl) rfl
set_option maxRecDepth 100000 in
theorem wb_cod_79 : Cond.code (wb_y 79) (wb_b 79) (wb_pn 79) (wb_r 79) ∈ wb_TB := wb_tb3 (List.mem_of_getElem? (i := 59) rfl) rfl
set_option maxRecDepth 100000 in
theorem wb_cod_80 : Cond.code (wb_y 80) (wb_b 80) (wb_pn 80) (wb_r 80) ∈ wb_TB := wb_tb3 (List.mem_of_getElem? (i := 79) rfl) rfl
set_option maxRecDepth 100000 in
theorem wb_cod_81 : Cond.code (wb_y 81) (wb_b 81) (wb_pn 81) (wb_r 81) ∈ wb_TB := wb_tb1 (List.mem_of_getElem? (i := 56) rfl) rfl
set_option maxRecDepth 100000 in
theorem wb_cod_82 : Cond.code (wb_y 82) (wb_b 82) (wb_pn 82) (wb_r 82) ∈ wb_TB := wb_tb3 (List.mem_of_getElem? (i := 75) rfl) rfl
set_option maxRecDepth 100000 in
theorem wb_cod_83 : Cond.code (wb_y 83) (wb_b 83) (wb_pn 83) (wb_r 83) ∈ wb_TB := wb_tb3 (List.mem_of_getElem? (i := 86) rfl) rfl
set_option maxRecDepth 100000 in
theorem wb_cod_84 : Cond.code (wb_y 84) (wb_b 84) (wb_pn 84) (wb_r 84) ∈ wb_TB := wb_tb3 (List.mem_of_getElem? (i := 93) rfl) rfl
set_option maxRecDepth 100000 in
theorem wb_cod_85 : Cond.code (wb_y 85) (wb_b 85) (wb_pn 85) (wb_r 85) ∈ wb_TB := wb_tb3 (List.mem_of_getElem? (i := 112) rfl) rfl
set_option maxRecDepth 100000 in
theorem wb_cod_86 : Cond.code (wb_y 86) (wb_b 86) (wb_pn 86) (wb_r 86) ∈ wb_TB := wb_tb3 (List.mem_of_getElem? (i := 97) rfl) rfl
set_option maxRecDepth 100000 in
theorem wb_cod_87 : Cond.code (wb_y 87) (wb_b 87) (wb_pn 87) (wb_r 87) ∈ wb_TB := wb_tb3 (List.mem_of_getElem? (i := 101) rfl) rfl
set_option maxRecDepth 100000 in
theorem wb_cod_88 : Cond.code (wb_y 88) (wb_b 88) (wb_pn 88) (wb_r 88) ∈ wb_TB := wb_tb3 (List.mem_of_getElem? (i := 105) rfl) rfl
set_option maxRecDepth 100000 in
theorem wb_cod_89 : Cond.code (wb_y 89) (wb_b 89) (wb_pn 89) (wb_r 89) ∈ wb_TB := wb_tb1 (List.mem_of_getElem? (i := 109) rfl) rfl
set_option maxRecDepth 100000 in
theorem wb_cod_90 : Cond.code (wb_y 90) (wb_b 90) (wb_pn 90) (wb_r 90) ∈ wb_TB := wb_tb3 (List.mem_of_getElem? (i := 82) rfl) rfl
set_option maxRecDepth 100000 in
theorem wb_cod_91 : Cond.code (wb_y 91) (wb_b 91) (wb_pn 91) (wb_r 91) ∈ wb_TB := wb_tb3 (List.mem_of_getElem? (i := 89) rfl) rfl
set_option maxRecDepth 100000 in
theorem wb_cod_92 : Cond.code (wb_y 92) (wb_b 92) (wb_pn 92) (wb_r 92) ∈ wb_TB := wb_tb3 (List.mem_of_getElem? (i := 108) rfl) rfl
set_option maxRecDepth 100000 in
theorem wb_cod_93 : Cond.code (wb_y 93) (wb_b 93) (wb_pn 93) (wb_r 93) ∈ wb_TB := wb_tb1 (List.mem_of_getElem? (i := 26) rfl) rfl
set_option maxRecDepth 100000 in
theorem wb_cod_94 : Cond.code (wb_y 94) (wb_b 94) (wb_pn 94) (wb_r 94) ∈ wb_TB := wb_tb3 (List.mem_of_getElem? (i := 51) rfl) rfl
set_option maxRecDepth 100000 in
theorem wb_cod_95 : Cond.code (wb_y 95) (wb_b 95) (wb_pn 95) (wb_r 95) ∈ wb_TB := wb_tb3 (List.mem_of_getElem? (i := 63) rfl) rfl
set_option maxRecDepth 100000 in
theorem wb_cod_96 : Cond.code (wb_y 96) (wb_b 96) (wb_pn 96) (wb_r 96) ∈ wb_TB := wb_tb3 (List.mem_of_getElem? (i := 67) rfl) rfl
set_option maxRecDepth 100000 in
theorem wb_cod_97 : Cond.code (wb_y 97) (wb_b 97) (wb_pn 97) (wb_r 97) ∈ wb_TB := wb_tb4 (List.mem_of_getElem? (i := 34) rfl) rfl
set_option maxRecDepth 100000 in
theorem wb_cod_98 : Cond.code (wb_y 98) (wb_b 98) (wb_pn 98) (wb_r 98) ∈ wb_TB := wb_tb2 (List.mem_of_getElem? (i := 214) rfl) rfl
set_option maxRecDepth 100000 in
theorem wb_cod_99 : Cond.code (wb_y 99) (wb_b 99) (wb_pn 99) (wb_r 99) ∈ wb_TB := wb_tb2 (List.mem_of_getElem? (i := 237) rfl) rfl
set_option maxRecDepth 100000 in
theorem wb_cod_100 : Cond.code (wb_y 100) (wb_b 100) (wb_pn 100) (wb_r 100) ∈ wb_TB := wb_tb4 (List.mem_of_getElem? (i := 38) rfl) rfl
set_option maxRecDepth 100000 in
theorem wb_cod_101 : Cond.code (wb_y 101) (wb_b 101) (wb_pn 101) (wb_r 101) ∈ wb_TB := wb_tb4 (List.mem_of_getElem? (i := 61) rfl) rfl
set_option maxRecDepth 100000 in
theorem wb_cod_102 : Cond.code (wb_y 102) (wb_b 102) (wb_pn 102) (wb_r 102) ∈ wb_TB := wb_tb4 (List.mem_of_getElem? (i := 65) rfl) rfl
set_option maxRecDepth 100000 in
theorem wb_cod_103 : Cond.code (wb_y 103) (wb_b 103) (wb_pn 103) (wb_r 103) ∈ wb_TB := wb_tb4 (List.mem_of_getElem? (i := 69) rfl) rfl
set_option maxRecDepth 100000 in
theorem wb_cod_104 : Cond.code (wb_y 104) (wb_b 104) (wb_pn 104) (wb_r 104) ∈ wb_TB := wb_tb4 (List.mem_of_getElem? (i := 42) rfl) rfl
set_option maxRecDepth 100000 in
theorem wb_cod_105 : Cond.code (wb_y 105) (wb_b 105) (wb_pn 105) (wb_r 105) ∈ wb_TB := wb_tb4 (List.mem_of_getElem? (i := 230) rfl) rfl
set_option maxRecDepth 100000 in
theorem wb_cod_106 : Cond.code (wb_y 106) (wb_b 106) (wb_pn 106) (wb_r 106) ∈ wb_TB := wb_tb4 (List.mem_of_getElem? (i := 45) rfl) rfl
set_option maxRecDepth 100000 in
theorem wb_cod_107 : Cond.code (wb_y 107) (wb_b 107) (wb_pn 107) (wb_r 107) ∈ wb_TB := wb_tb5 (List.mem_of_getElem? (i := 55) rfl) rfl
set_option maxRecDepth 100000 in
theorem wb_cod_108 : Cond.code (wb_y 108) (wb_b 108) (wb_pn 108) (wb_r 108) ∈ wb_TB := wb_tb4 (List.mem_of_getElem? (i := 73) rfl) rfl
set_option maxRecDepth 100000 in
theorem wb_cod_109 : Cond.code (wb_y 109) (wb_b 109) (wb_pn 109) (wb_r 109) ∈ wb_TB := wb_tb4 (List.mem_of_getElem? (i := 191) rfl) rfl
set_option maxRecDepth 100000 in
theorem wb_cod_110 : Cond.code (wb_y 110) (wb_b 110) (wb_pn 110) (wb_r 110) ∈ wb_TB := wb_tb4 (List.mem_of_getElem? (i := 195) rfl) rfl
set_option maxRecDepth 100000 in
theorem wb_cod_111 : Cond.code (wb_y 111) (wb_b 111) (wb_pn 111) (wb_r 111) ∈ wb_TB := wb_tb4 (List.mem_of_getElem? (i := 200) rfl) rfl
set_option maxRecDepth 100000 in
theorem wb_cod_112 : Cond.code (wb_y 112) (wb_b 112) (wb_pn 112) (wb_r 112) ∈ wb_TB := wb_tb4 (List.mem_of_getElem? (i := 203) rfl) rfl
set_option maxRecDepth 100000 in
theorem wb_cod_113 : Cond.code (wb_y 113) (wb_b 113) (wb_pn 113) (wb_r 113) ∈ wb_TB := wb_tb4 (List.mem_of_getElem? (i := 207) rfl) rfl
set_option maxRecDepth 100000 in
theorem wb_cod_114 : Cond.code (wb_y 114) (wb_b 114) (wb_pn 114) (wb_r 114) ∈ wb_TB := wb_tb4 (List.mem_of_getElem? (i := 215) rfl) rfl
set_option maxRecDepth 100000 in
theorem wb_cod_115 : Cond.code (wb_y 115) (wb_b 115) (wb_pn 115) (wb_r 115) ∈ wb_TB := wb_tb4 (List.mem_of_getElem? (i := 223) rfl) rfl
set_option maxRecDepth 100000 in
theorem wb_cod_116 : Cond.code (wb_y 116) (wb_b 116) (wb_pn 116) (wb_r 116) ∈ wb_TB := wb_tb4 (List.mem_of_getElem? (i := 218) rfl) rfl
set_option maxRecDepth 100000 in
theorem wb_cod_117 : Cond.code (wb_y 117) (wb_b 117) (wb_pn 117) (wb_r 117) ∈ wb_TB := wb_tb4 (List.mem_of_getElem? (i := 227) rfl) rfl
set_option maxRecDepth 100000 in
theorem wb_cod_118 : Cond.code (wb_y 118) (wb_b 118) (wb_pn 118) (wb_r 118) ∈ wb_TB := wb_tb4 (List.mem_of_getElem? (i := 236) rfl) rfl
set_option maxRecDepth 100000 in
theorem wb_cod_119 : Cond.code (wb_y 119) (wb_b 119) (wb_pn 119) (wb_r 119) ∈ wb_TB := wb_tb5 (List.mem_of_getElem? (i := 15) rfl) rfl
set_option maxRecDepth 100000 in
theorem wb_cod_120 : Cond.code (wb_y 120) (wb_b 120) (wb_pn 120) (wb_r 120) ∈ wb_TB := wb_tb5 (List.mem_of_getElem? (i := 23) rfl) rfl
set_option maxRecDepth 100000 in
theorem wb_cod_121 : Cond.code (wb_y 121) (wb_b 121) (wb_pn 121) (wb_r 121) ∈ wb_TB := wb_tb5 (List.mem_of_getElem? (i := 35) rfl) rfl
set_option maxRecDepth 100000 in
theorem wb_cod_122 : Cond.code (wb_y 122) (wb_b 122) (wb_pn 122) (wb_r 122) ∈ wb_TB := wb_tb5 (List.mem_of_getElem? (i := 39) rfl) rfl
set_option maxRecDepth 100000 in
theorem wb_cod_123 : Cond.code (wb_y 123) (wb_b 123) (wb_pn 123) (wb_r 123) ∈ wb_TB := wb_tb5 (List.mem_of_getElem? (i := 47) rfl) rfl
set_option maxRecDepth 100000 in
theorem wb_cod_124 : Cond.code (wb_y 124) (wb_b 124) (wb_pn 124) (wb_r 124) ∈ wb_TB := wb_tb5 (List.mem_of_getElem? (i := 51) rfl) rfl
set_option maxRecDepth 100000 in
theorem wb_cod_125 : Cond.code (wb_y 125) (wb_b 125) (wb_pn 125) (wb_r 125) ∈ wb_TB := wb_tb5 (List.mem_of_getElem? (i := 69) rfl) rfl
set_option maxRecDepth 100000 in
theorem wb_cod_126 : Cond.code (wb_y 126) (wb_b 126) (wb_pn 126) (wb_r 126) ∈ wb_TB := wb_tb5 (List.mem_of_getElem? (i := 73) rfl) rfl
set_option maxRecDepth 100000 in
theorem wb_cod_127 : Cond.code (wb_y 127) (wb_b 127) (wb_pn 127) (wb_r 127) ∈ wb_TB := wb_tb5 (List.mem_of_getElem? (i := 65) rfl) rfl
set_option maxRecDepth 100000 in
theorem wb_cod_128 : Cond.code (wb_y 128) (wb_b 128) (wb_pn 128) (wb_r 128) ∈ wb_TB := wb_tb5 (List.mem_of_getElem? (i := 27) rfl) rfl
set_option maxRecDepth 100000 in
theorem wb_cod_129 : Cond.code (wb_y 129) (wb_b 129) (wb_pn 129) (wb_r 129) ∈ wb_TB := wb_tb5 (List.mem_of_getElem? (i := 78) rfl) rfl
set_option maxRecDepth 100000 in
theorem wb_cod_130 : Cond.code (wb_y 130) (wb_b 130) (wb_pn 130) (wb_r 130) ∈ wb_TB := wb_tb5 (List.mem_of_getElem? (i := 82) rfl) rfl
set_option maxRecDepth 100000 in
theorem wb_cod_131 : Cond.code (wb_y 131) (wb_b 131) (wb_pn 131) (wb_r 131) ∈ wb_TB := wb_tb5 (List.mem_of_getElem? (i := 90) rfl) rfl
set_option maxRecDepth 100000 in
theorem wb_cod_132 : Cond.code (wb_y 132) (wb_b 132) (wb_pn 132) (wb_r 132) ∈ wb_TB := wb_tb5 (List.mem_of_getElem? (i := 98) rfl) rfl
set_option maxRecDepth 100000 in
theorem wb_cod_133 : Cond.code (wb_y 133) (wb_b 133) (wb_pn 133) (wb_r 133) ∈ wb_TB := wb_tb5 (List.mem_of_getElem? (i := 94) rfl) rfl
set_option maxRecDepth 100000 in
theorem wb_cod_134 : Cond.code (wb_y 134) (wb_b 134) (wb_pn 134) (wb_r 134) ∈ wb_TB := wb_tb5 (List.mem_of_getElem? (i := 102) rfl) rfl
set_option maxRecDepth 100000 in
theorem wb_cod_135 : Cond.code (wb_y 135) (wb_b 135) (wb_pn 135) (wb_r 135) ∈ wb_TB := wb_tb5 (List.mem_of_getElem? (i := 106) rfl) rfl
set_option maxRecDepth 100000 in
theorem wb_cod_136 : Cond.code (wb_y 136) (wb_b 136) (wb_pn 136) (wb_r 136) ∈ wb_TB := wb_tb5 (List.mem_of_getElem? (i := 110) rfl) rfl
set_option maxRecDepth 100000 in
theorem wb_cod_137 : Cond.code (wb_y 137) (wb_b 137) (wb_pn 137) (wb_r 137) ∈ wb_TB := wb_tb5 (List.mem_of_getElem? (i := 114) rfl) rfl
set_option maxRecDepth 100000 in
theorem wb_cod_138 : Cond.code (wb_y 138) (wb_b 138) (wb_pn 138) (wb_r 138) ∈ wb_TB := wb_tb5 (List.mem_of_getElem? (i := 119) rfl) rfl
set_option maxRecDepth 100000 in
theorem wb_cod_139 : Cond.code (wb_y 139) (wb_b 139) (wb_pn 139) (wb_r 139) ∈ wb_TB := wb_tb5 (List.mem_of_getElem? (i := 123) rfl) rfl
set_option maxRecDepth 100000 in
theorem wb_cod_140 : Cond.code (wb_y 140) (wb_b 140) (wb_pn 140) (wb_r 140) ∈ wb_TB := wb_tb5 (List.mem_of_getElem? (i := 138) rfl) rfl
set_option maxRecDepth 100000 in
theorem wb_cod_141 : Cond.code (wb_y 141) (wb_b 141) (wb_pn 141) (wb_r 141) ∈ wb_TB := wb_tb4 (List.mem_of_getElem? (i := 89) rfl) rfl
set_option maxRecDepth 100000 in
theorem wb_cod_142 : Cond.code (wb_y 142) (wb_b 142) (wb_pn 142) (wb_r 142) ∈ wb_TB := wb_tb5 (List.mem_of_getElem? (i := 4) rfl) rfl
set_option maxRecDepth 100000 in
theorem wb_cod_143 : Cond.code (wb_y 143) (wb_b 143) (wb_pn 143) (wb_r 143) ∈ wb_TB := wb_tb5 (List.mem_of_getElem? (i := 0) rfl) rfl
set_option maxRecDepth 100000 in
theorem wb_cod_144 : Cond.code (wb_y 144) (wb_b 144) (wb_pn 144) (wb_r 144) ∈ wb_TB := wb_tb5 (List.mem_of_getElem? (i := 8) rfl) rfl
set_option maxRecDepth 100000 in
theorem wb_cod_145 : Cond.code (wb_y 145) (wb_b 145) (wb_pn 145) (wb_r 145) ∈ wb_TB := wb_tb5 (List.mem_of_getElem? (i := 142) rfl) rfl
set_option maxRecDepth 100000 in
theorem wb_cod_146 : Cond.code (wb_y 146) (wb_b 146) (wb_pn 146) (wb_r 146) ∈ wb_TB := wb_tb5 (List.mem_of_getElem? (i := 145) rfl) rfl
set_option maxRecDepth 100000 in
theorem wb_cod_147 : Cond.code (wb_y 147) (wb_b 147) (wb_pn 147) (wb_r 147) ∈ wb_TB := wb_tb5 (List.mem_of_getElem? (i := 153) rfl) rfl
set_option maxRecDepth 100000 in
theorem wb_cod_148 : Cond.code (wb_y 148) (wb_b 148) (wb_pn 148) (wb_r 148) ∈ wb_TB := wb_tb5 (List.mem_of_getElem? (i := 157) rfl) rfl
set_option maxRecDepth 100000 in
theorem wb_cod_149 : Cond.code (wb_y 149) (wb_b 149) (wb_pn 149) (wb_r 149) ∈ wb_TB := wb_tb5 (List.mem_of_getElem? (i := 174) rfl) rfl
set_option maxRecDepth 100000 in
theorem wb_cod_150 : Cond.code (wb_y 150) (wb_b 150) (wb_pn 150) (wb_r 150) ∈ wb_TB := wb_tb6 (List.mem_of_getElem? (i := 160) rfl) rfl
set_option maxRecDepth 100000 in
theorem wb_cod_151 : Cond.code (wb_y 151) (wb_b 151) (wb_pn 151) (wb_r 151) ∈ wb_TB := wb_tb6 (List.mem_of_getElem? (i := 164) rfl) rfl
set_option maxRecDepth 100000 in
theorem wb_cod_152 : Cond.code (wb_y 152) (wb_b 152) (wb_pn 152) (wb_r 152) ∈ wb_TB := wb_tb6 (List.mem_of_getElem? (i := 168) rfl) rfl
set_option maxRecDepth 100000 in
theorem wb_cod_153 : Cond.code (wb_y 153) (wb_b 153) (wb_pn 153) (wb_r 153) ∈ wb_TB := wb_tb6 (List.mem_of_getElem? (i := 180) rfl) rfl
set_option maxRecDepth 100000 in
theorem wb_cod_154 : Cond.code (wb_y 154) (wb_b 154) (wb_pn 154) (wb_r 154) ∈ wb_TB := wb_tb6 (List.mem_of_getElem? (i := 190) rfl) rfl
set_option maxRecDepth 100000 in
theorem wb_cod_155 : Cond.code (wb_y 155) (wb_b 155) (wb_pn 155) (wb_r 155) ∈ wb_TB := wb_tb6 (List.mem_of_getElem? (i := 187) rfl) rfl
set_option maxRecDepth 100000 in
theorem wb_cod_156 : Cond.code (wb_y 156) (wb_b 156) (wb_pn 156) (wb_r 156) ∈ wb_TB := wb_tb5 (List.mem_of_getElem? (i := 185) rfl) rfl
set_option maxRecDepth 100000 in
theorem wb_cod_157 : Cond.code (wb_y 157) (wb_b 157) (wb_pn 157) (wb_r 157) ∈ wb_TB := wb_tb5 (List.mem_of_getElem? (i := 182) rfl) rfl
set_option maxRecDepth 100000 in
theorem wb_cod_158 : Cond.code (wb_y 158) (wb_b 158) (wb_pn 158) (wb_r 158) ∈ wb_TB := wb_tb6 (List.mem_of_getElem? (i := 184) rfl) rfl
set_option maxRecDepth 100000 in
theorem wb_cod_159 : Cond.code (wb_y 159) (wb_b 159) (wb_pn 159) (wb_r 159) ∈ wb_TB := wb_tb6 (List.mem_of_getElem? (i := 176) rfl) rfl
set_option maxRecDepth 100000 in
theorem wb_cod_160 : Cond.code (wb_y 160) (wb_b 160) (wb_pn 160) (wb_r 160) ∈ wb_TB := wb_tb6 (List.mem_of_getElem? (i := 194) rfl) rfl
set_option maxRecDepth 100000 in
theorem wb_cod_161 : Cond.code (wb_y 161) (wb_b 161) (wb_pn 161) (wb_r 161) ∈ wb_TB := wb_tb6 (List.mem_of_getElem? (i := 198) rfl) rfl
set_option maxRecDepth 100000 in
theorem wb_cod_162 : Cond.code (wb_y 162) (wb_b 162) (wb_pn 162) (wb_r 162) ∈ wb_TB := wb_tb6 (List.mem_of_getElem? (i := 206) rfl) rfl
set_option maxRecDepth 100000 in
theorem wb_cod_163 : Cond.code (wb_y 163) (wb_b 163) (wb_pn 163) (wb_r 163) ∈ wb_TB := wb_tb6 (List.mem_of_getElem? (i := 226) rfl) rfl
set_option maxRecDepth 100000 in
theorem wb_cod_164 : Cond.code (wb_y 164) (wb_b 164) (wb_pn 164) (wb_r 164) ∈ wb_TB := wb_tb6 (List.mem_of_getElem? (i := 214) rfl) rfl
set_option maxRecDepth 100000 in
theorem wb_cod_165 : Cond.code (wb_y 165) (wb_b 165) (wb_pn 165) (wb_r 165) ∈ wb_TB := wb_tb6 (List.mem_of_getElem? (i := 218) rfl) rfl
set_option maxRecDepth 100000 in
theorem wb_cod_166 : Cond.code (wb_y 166) (wb_b 166) (wb_pn 166) (wb_r 166) ∈ wb_TB := wb_tb5 (List.mem_of_getElem? (i := 179) rfl) rfl
set_option maxRecDepth 100000 in
theorem wb_cod_167 : Cond.code (wb_y 167) (wb_b 167) (wb_pn 167) (wb_r 167) ∈ wb_TB := wb_tb6 (List.mem_of_getElem? (i := 172) rfl) rfl
set_option maxRecDepth 100000 in
theorem wb_cod_168 : Cond.code (wb_y 168) (wb_b 168) (wb_pn 168) (wb_r 168) ∈ wb_TB := wb_tb7 (List.mem_of_getElem? (i := 26) rfl) rfl
set_option maxRecDepth 100000 in
theorem wb_cod_169 : Cond.code (wb_y 169) (wb_b 169) (wb_pn 169) (wb_r 169) ∈ wb_TB := wb_tb6 (List.mem_of_getElem? (i := 202) rfl) rfl
set_option maxRecDepth 100000 in
theorem wb_cod_170 : Cond.code (wb_y 170) (wb_b 170) (wb_pn 170) (wb_r 170) ∈ wb_TB := wb_tb7 (List.mem_of_getElem? (i := 22) rfl) rfl
set_option maxRecDepth 100000 in
theorem wb_cod_171 : Cond.code (wb_y 171) (wb_b 171) (wb_pn 171) (wb_r 171) ∈ wb_TB := wb_tb6 (List.mem_of_getElem? (i := 230) rfl) rfl
set_option maxRecDepth 100000 in
theorem wb_cod_172 : Cond.code (wb_y 172) (wb_b 172) (wb_pn 172) (wb_r 172) ∈ wb_TB := wb_tb6 (List.mem_of_getElem? (i := 222) rfl) rfl
set_option maxRecDepth 100000 in
theorem wb_cod_173 : Cond.code (wb_y 173) (wb_b 173) (wb_pn 173) (wb_r 173) ∈ wb_TB := wb_tb6 (List.mem_of_getElem? (i := 210) rfl) rfl
set_option maxRecDepth 100000 in
theorem wb_cod_174 : Cond.code (wb_y 174) (wb_b 174) (wb_pn 174) (wb_r 174) ∈ wb_TB := wb_tb6 (List.mem_of_getElem? (i := 234) rfl) rfl
set_option maxRecDepth 100000 in
theorem wb_cod_175 : Cond.code (wb_y 175) (wb_b 175) (wb_pn 175) (wb_r 175) ∈ wb_TB := wb_tb6 (List.mem_of_getElem? (i := 238) rfl) rfl
set_option maxRecDepth 100000 in
theorem wb_cod_176 : Cond.code (wb_y 176) (wb_b 176) (wb_pn 176) (wb_r 176) ∈ wb_TB := wb_tb7 (List.mem_of_getElem? (i := 18) rfl) rfl
set_option maxRecDepth 100000 in
theorem wb_cod_177 : Cond.code (wb_y 177) (wb_b 177) (wb_pn 177) (wb_r 177) ∈ wb_TB := wb_tb7 (List.mem_of_getElem? (i := 10) rfl) rfl
set_option maxRecDepth 100000 in
theorem wb_cod_178 : Cond.code (wb_y 178) (wb_b 178) (wb_pn 178) (wb_r 178) ∈ wb_TB := wb_tb7 (List.mem_of_getElem? (i := 14) rfl) rfl
set_option maxRecDepth 100000 in
theorem wb_cod_179 : Cond.code (wb_y 179) (wb_b 179) (wb_pn 179) (wb_r 179) ∈ wb_TB := wb_tb7 (List.mem_of_getElem? (i := 2) rfl) rfl
set_option maxRecDepth 100000 in
theorem wb_cod_180 : Cond.code (wb_y 180) (wb_b 180) (wb_pn 180) (wb_r 180) ∈ wb_TB := wb_tb7 (List.mem_of_getElem? (i := 6) rfl) rfl
set_option maxRecDepth 100000 in
theorem wb_cod_181 : Cond.code (wb_y 181) (wb_b 181) (wb_pn 181) (wb_r 181) ∈ wb_TB := wb_tb7 (List.mem_of_getElem? (i := 129) rfl) rfl
set_option maxRecDepth 100000 in
theorem wb_cod_182 : Cond.code (wb_y 182) (wb_b 182) (wb_pn 182) (wb_r 182) ∈ wb_TB := wb_tb7 (List.mem_of_getElem? (i := 37) rfl) rfl
set_option maxRecDepth 100000 in
theorem wb_cod_183 : Cond.code (wb_y 183) (wb_b 183) (wb_pn 183) (wb_r 183) ∈ wb_TB := wb_tb8 (List.mem_of_getElem? (i := 9) rfl) rfl
set_option maxRecDepth 100000 in
theorem wb_cod_184 : Cond.code (wb_y 184) (wb_b 184) (wb_pn 184) (wb_r 184) ∈ wb_TB := wb_tb7 (List.mem_of_getElem? (i := 34) rfl) rfl
set_option maxRecDepth 100000 in
theorem wb_cod_185 : Cond.code (wb_y 185) (wb_b 185) (wb_pn 185) (wb_r 185) ∈ wb_TB := wb_tb5 (List.mem_of_getElem? (i := 190) rfl) rfl
set_option maxRecDepth 100000 in
theorem wb_cod_186 : Cond.code (wb_y 186) (wb_b 186) (wb_pn 186) (wb_r 186) ∈ wb_TB := wb_tb5 (List.mem_of_getElem? (i := 194) rfl) rfl
set_option maxRecDepth 100000 in
theorem wb_cod_187 : Cond.code (wb_y 187) (wb_b 187) (wb_pn 187) (wb_r 187) ∈ wb_TB := wb_tb5 (List.mem_of_getElem? (i := 198) rfl) rfl
set_option maxRecDepth 100000 in
theorem wb_cod_188 : Cond.code (wb_y 188) (wb_b 188) (wb_pn 188) (wb_r 188) ∈ wb_TB := wb_tb7 (List.mem_of_getElem? (i := 41) rfl) rfl
set_option maxRecDepth 100000 in
theorem wb_cod_189 : Cond.code (wb_y 189) (wb_b 189) (wb_pn 189) (wb_r 189) ∈ wb_TB := wb_tb7 (List.mem_of_getElem? (i := 49) rfl) rfl
set_option maxRecDepth 100000 in
theorem wb_cod_190 : Cond.code (wb_y 190) (wb_b 190) (wb_pn 190) (wb_r 190) ∈ wb_TB := wb_tb7 (List.mem_of_getElem? (i := 45) rfl) rfl
set_option maxRecDepth 100000 in
theorem wb_cod_191 : Cond.code (wb_y 191) (wb_b 191) (wb_pn 191) (wb_r 191) ∈ wb_TB := wb_tb7 (List.mem_of_getElem? (i := 53) rfl) rfl
set_option maxRecDepth 100000 in
theorem wb_cod_192 : Cond.code (wb_y 192) (wb_b 192) (wb_pn 192) (wb_r 192) ∈ wb_TB := wb_tb7 (List.mem_of_getElem? (i := 81) rfl) rfl
set_option maxRecDepth 100000 in
theorem wb_cod_193 : Cond.code (wb_y 193) (wb_b 193) (wb_pn 193) (wb_r 193) ∈ wb_TB := wb_tb7 (List.mem_of_getElem? (i := 73) rfl) rfl
set_option maxRecDepth 100000 in
theorem wb_cod_194 : Cond.code (wb_y 194) (wb_b 194) (wb_pn 194) (wb_r 194) ∈ wb_TB := wb_tb7 (List.mem_of_getElem? (i := 69) rfl) rfl
set_option maxRecDepth 100000 in
theorem wb_cod_195 : Cond.code (wb_y 195) (wb_b 195) (wb_pn 195) (wb_r 195) ∈ wb_TB := wb_tb7 (List.mem_of_getElem? (i := 89) rfl) rfl
set_option maxRecDepth 100000 in
theorem wb_cod_196 : Cond.code (wb_y 196) (wb_b 196) (wb_pn 196) (wb_r 196) ∈ wb_TB := wb_tb7 (List.mem_of_getElem? (i := 97) rfl) rfl
set_option maxRecDepth 100000 in
theorem wb_cod_197 : Cond.code (wb_y 197) (wb_b 197) (wb_pn 197) (wb_r 197) ∈ wb_TB := wb_tb7 (List.mem_of_getElem? (i := 101) rfl) rfl
set_option maxRecDepth 100000 in
theorem wb_cod_198 : Cond.code (wb_y 198) (wb_b 198) (wb_pn 198) (wb_r 198) ∈ wb_TB := wb_tb7 (List.mem_of_getElem? (i := 109) rfl) rfl
set_option maxRecDepth 100000 in
theorem wb_cod_199 : Cond.code (wb_y 199) (wb_b 199) (wb_pn 199) (wb_r 199) ∈ wb_TB := wb_tb7 (List.mem_of_getElem? (i := 105) rfl) rfl
set_option maxRecDepth 100000 in
theorem wb_cod_200 : Cond.code (wb_y 200) (wb_b 200) (wb_pn 200) (wb_r 200) ∈ wb_TB := wb_tb7 (List.mem_of_getElem? (i := 113) rfl) rfl
set_option maxRecDepth 100000 in
theorem wb_cod_201 : Cond.code (wb_y 201) (wb_b 201) (wb_pn 201) (wb_r 201) ∈ wb_TB := wb_tb7 (List.mem_of_getElem? (i := 125) rfl) rfl
set_option maxRecDepth 100000 in
theorem wb_cod_202 : Cond.code (wb_y 202) (wb_b 202) (wb_pn 202) (wb_r 202) ∈ wb_TB := wb_tb7 (List.mem_of_getElem? (i := 121) rfl) rfl
set_option maxRecDepth 100000 in
theorem wb_cod_203 : Cond.code (wb_y 203) (wb_b 203) (wb_pn 203) (wb_r 203) ∈ wb_TB := wb_tb7 (List.mem_of_getElem? (i := 117) rfl) rfl
set_option maxRecDepth 100000 in
theorem wb_cod_204 : Cond.code (wb_y 204) (wb_b 204) (wb_pn 204) (wb_r 204) ∈ wb_TB := wb_tb7 (List.mem_of_getElem? (i := 93) rfl) rfl
set_option maxRecDepth 100000 in
theorem wb_cod_205 : Cond.code (wb_y 205) (wb_b 205) (wb_pn 205) (wb_r 205) ∈ wb_TB := wb_tb7 (List.mem_of_getElem? (i := 85) rfl) rfl
set_option maxRecDepth 100000 in
theorem wb_cod_206 : Cond.code (wb_y 206) (wb_b 206) (wb_pn 206) (wb_r 206) ∈ wb_TB := wb_tb7 (List.mem_of_getElem? (i := 77) rfl) rfl
set_option maxRecDepth 100000 in
theorem wb_cod_207 : Cond.code (wb_y 207) (wb_b 207) (wb_pn 207) (wb_r 207) ∈ wb_TB := wb_tb7 (List.mem_of_getElem? (i := 65) rfl) rfl
set_option maxRecDepth 100000 in
theorem wb_cod_208 : Cond.code (wb_y 208) (wb_b 208) (wb_pn 208) (wb_r 208) ∈ wb_TB := wb_tb7 (List.mem_of_getElem? (i := 153) rfl) rfl
set_option maxRecDepth 100000 in
theorem wb_cod_209 : Cond.code (wb_y 209) (wb_b 209) (wb_pn 209) (wb_r 209) ∈ wb_TB := wb_tb7 (List.mem_of_getElem? (i := 149) rfl) rfl
set_option maxRecDepth 100000 in
theorem wb_cod_210 : Cond.code (wb_y 210) (wb_b 210) (wb_pn 210) (wb_r 210) ∈ wb_TB := wb_tb7 (List.mem_of_getElem? (i := 204) rfl) rfl
set_option maxRecDepth 100000 in
theorem wb_cod_211 : Cond.code (wb_y 211) (wb_b 211) (wb_pn 211) (wb_r 211) ∈ wb_TB := wb_tb7 (List.mem_of_getElem? (i := 200) rfl) rfl
set_option maxRecDepth 100000 in
theorem wb_cod_212 : Cond.code (wb_y 212) (wb_b 212) (wb_pn 212) (wb_r 212) ∈ wb_TB := wb_tb7 (List.mem_of_getElem? (i := 222) rfl) rfl
set_option maxRecDepth 100000 in
theorem wb_cod_213 : Cond.code (wb_y 213) (wb_b 213) (wb_pn 213) (wb_r 213) ∈ wb_TB := wb_tb7 (List.mem_of_getElem? (i := 210) rfl) rfl
set_option maxRecDepth 100000 in
theorem wb_cod_214 : Cond.code (wb_y 214) (wb_b 214) (wb_pn 214) (wb_r 214) ∈ wb_TB := wb_tb7 (List.mem_of_getElem? (i := 207) rfl) rfl
set_option maxRecDepth 100000 in
theorem wb_cod_215 : Cond.code (wb_y 215) (wb_b 215) (wb_pn 215) (wb_r 215) ∈ wb_TB := wb_tb7 (List.mem_of_getElem? (i := 144) rfl) rfl
set_option maxRecDepth 100000 in
theorem wb_cod_216 : Cond.code (wb_y 216) (wb_b 216) (wb_pn 216) (wb_r 216) ∈ wb_TB := wb_tb7 (List.mem_of_getElem? (i := 141) rfl) rfl
set_option maxRecDepth 100000 in
theorem wb_cod_217 : Cond.code (wb_y 217) (wb_b 217) (wb_pn 217) (wb_r 217) ∈ wb_TB := wb_tb7 (List.mem_of_getElem? (i := 137) rfl) rfl
set_option maxRecDepth 100000 in
theorem wb_cod_218 : Cond.code (wb_y 218) (wb_b 218) (wb_pn 218) (wb_r 218) ∈ wb_TB := wb_tb7 (List.mem_of_getElem? (i := 133) rfl) rfl
set_option maxRecDepth 100000 in
theorem wb_cod_219 : Cond.code (wb_y 219) (wb_b 219) (wb_pn 219) (wb_r 219) ∈ wb_TB := wb_tb7 (List.mem_of_getElem? (i := 30) rfl) rfl
set_option maxRecDepth 100000 in
theorem wb_cod_220 : Cond.code (wb_y 220) (wb_b 220) (wb_pn 220) (wb_r 220) ∈ wb_TB := wb_tb7 (List.mem_of_getElem? (i := 57) rfl) rfl
set_option maxRecDepth 100000 in
theorem wb_cod_221 : Cond.code (wb_y 221) (wb_b 221) (wb_pn 221) (wb_r 221) ∈ wb_TB := wb_tb7 (List.mem_of_getElem? (i := 157) rfl) rfl
set_option maxRecDepth 100000 in
theorem wb_cod_222 : Cond.code (wb_y 222) (wb_b 222) (wb_pn 222) (wb_r 222) ∈ wb_TB := wb_tb7 (List.mem_of_getElem? (i := 61) rfl) rfl
set_option maxRecDepth 100000 in
theorem wb_cod_223 : Cond.code (wb_y 223) (wb_b 223) (wb_pn 223) (wb_r 223) ∈ wb_TB := wb_tb7 (List.mem_of_getElem? (i := 161) rfl) rfl
set_option maxRecDepth 100000 in
theorem wb_cod_224 : Cond.code (wb_y 224) (wb_b 224) (wb_pn 224) (wb_r 224) ∈ wb_TB := wb_tb7 (List.mem_of_getElem? (i := 169) rfl) rfl
set_option maxRecDepth 100000 in
theorem wb_cod_225 : Cond.code (wb_y 225) (wb_b 225) (wb_pn 225) (wb_r 225) ∈ wb_TB := wb_tb7 (List.mem_of_getElem? (i := 165) rfl) rfl
set_option maxRecDepth 100000 in
theorem wb_cod_226 : Cond.code (wb_y 226) (wb_b 226) (wb_pn 226) (wb_r 226) ∈ wb_TB := wb_tb7 (List.mem_of_getElem? (i := 173) rfl) rfl
set_option maxRecDepth 100000 in
theorem wb_cod_227 : Cond.code (wb_y 227) (wb_b 227) (wb_pn 227) (wb_r 227) ∈ wb_TB := wb_tb7 (List.mem_of_getElem? (i := 177) rfl) rfl
set_option maxRecDepth 100000 in
theorem wb_cod_228 : Cond.code (wb_y 228) (wb_b 228) (wb_pn 228) (wb_r 228) ∈ wb_TB := wb_tb7 (List.mem_of_getElem? (i := 184) rfl) rfl
set_option maxRecDepth 100000 in
theorem wb_cod_229 : Cond.code (wb_y 229) (wb_b 229) (wb_pn 229) (wb_r 229) ∈ wb_TB := wb_tb7 (List.mem_of_getElem? (i := 192) rfl) rfl
set_option maxRecDepth 100000 in
theorem wb_cod_230 : Cond.code (wb_y 230) (wb_b 230) (wb_pn 230) (wb_r 230) ∈ wb_TB := wb_tb7 (List.mem_of_getElem? (i := 188) rfl) rfl
set_option maxRecDepth 100000 in
theorem wb_cod_231 : Cond.code (wb_y 231) (wb_b 231) (wb_pn 231) (wb_r 231) ∈ wb_TB := wb_tb7 (List.mem_of_getElem? (i := 181) rfl) rfl
set_option maxRecDepth 100000 in
theorem wb_cod_232 : Cond.code (wb_y 232) (wb_b 232) (wb_pn 232) (wb_r 232) ∈ wb_TB := wb_tb7 (List.mem_of_getElem? (i := 196) rfl) rfl
set_option maxRecDepth 100000 in
theorem wb_cod_233 : Cond.code (wb_y 233) (wb_b 233) (wb_pn 233) (wb_r 233) ∈ wb_TB := wb_tb7 (List.mem_of_getElem? (i := 214) rfl) rfl
set_option maxRecDepth 100000 in
theorem wb_cod_234 : Cond.code (wb_y 234) (wb_b 234) (wb_pn 234) (wb_r 234) ∈ wb_TB := wb_tb7 (List.mem_of_getElem? (i := 218) rfl) rfl
set_option maxRecDepth 100000 in
theorem wb_cod_235 : Cond.code (wb_y 235) (wb_b 235) (wb_pn 235) (wb_r 235) ∈ wb_TB := wb_tb7 (List.mem_of_getElem? (i := 226) rfl) rfl
set_option maxRecDepth 100000 in
theorem wb_cod_236 : Cond.code (wb_y 236) (wb_b 236) (wb_pn 236) (wb_r 236) ∈ wb_TB := wb_tb7 (List.mem_of_getElem? (i := 230) rfl) rfl
set_option maxRecDepth 100000 in
theorem wb_cod_237 : Cond.code (wb_y 237) (wb_b 237) (wb_pn 237) (wb_r 237) ∈ wb_TB := wb_tb7 (List.mem_of_getElem? (i := 234) rfl) rfl
set_option maxRecDepth 100000 in
theorem wb_cod_238 : Cond.code (wb_y 238) (wb_b 238) (wb_pn 238) (wb_r 238) ∈ wb_TB := wb_tb8 (List.mem_of_getElem? (i := 13) rfl) rfl
set_option maxRecDepth 100000 in
theorem wb_cod_239 : Cond.code (wb_y 239) (wb_b 239) (wb_pn 239) (wb_r 239) ∈ wb_TB := wb_tb8 (List.mem_of_getElem? (i := 6) rfl) rfl
set_option maxRecDepth 100000 in
theorem wb_cod_240 : Cond.code (wb_y 240) (wb_b 240) (wb_pn 240) (wb_r 240) ∈ wb_TB := wb_tb8 (List.mem_of_getElem? (i := 2) rfl) rfl
set_option maxRecDepth 100000 in
theorem wb_cod_241 : Cond.code (wb_y 241) (wb_b 241) (wb_pn 241) (wb_r 241) ∈ wb_TB := wb_tb7 (List.mem_of_getElem? (i := 238) rfl) rfl
set_option maxRecDepth 100000 in
theorem wb_cod_242 : Cond.code (wb_y 242) (wb_b 242) (wb_pn 242) (wb_r 242) ∈ wb_TB := wb_tb8 (List.mem_of_getElem? (i := 17) rfl) rfl
set_option maxRecDepth 100000 in
theorem wb_cod_243 : Cond.code (wb_y 243) (wb_b 243) (wb_pn 243) (wb_r 243) ∈ wb_TB := wb_tb8 (List.mem_of_getElem? (i := 21) rfl) rfl
set_option maxRecDepth 100000 in
theorem wb_cod_244 : Cond.code (wb_y 244) (wb_b 244) (wb_pn 244) (wb_r 244) ∈ wb_TB := wb_tb8 (List.mem_of_getElem? (i := 25) rfl) rfl
set_option maxRecDepth 100000 in
theorem wb_cod_245 : Cond.code (wb_y 245) (wb_b 245) (wb_pn 245) (wb_r 245) ∈ wb_TB := wb_tb8 (List.mem_of_getElem? (i := 33) rfl) rfl
set_option maxRecDepth 100000 in
theorem wb_cod_246 : Cond.code (wb_y 246) (wb_b 246) (wb_pn 246) (wb_r 246) ∈ wb_TB := wb_tb8 (List.mem_of_getElem? (i := 29) rfl) rfl
set_option maxRecDepth 100000 in
theorem wb_cod_247 : Cond.code (wb_y 247) (wb_b 247) (wb_pn 247) (wb_r 247) ∈ wb_TB := wb_tb8 (List.mem_of_getElem? (i := 37) rfl) rfl
set_option maxRecDepth 100000 in
theorem wb_cod_248 : Cond.code (wb_y 248) (wb_b 248) (wb_pn 248) (wb_r 248) ∈ wb_TB := wb_tb8 (List.mem_of_getElem? (i := 41) rfl) rfl
set_option maxRecDepth 100000 in
theorem wb_cod_249 : Cond.code (wb_y 249) (wb_b 249) (wb_pn 249) (wb_r 249) ∈ wb_TB := wb_tb8 (List.mem_of_getElem? (i := 49) rfl) rfl
set_option maxRecDepth 100000 in
theorem wb_cod_250 : Cond.code (wb_y 250) (wb_b 250) (wb_pn 250) (wb_r 250) ∈ wb_TB := wb_tb8 (List.mem_of_getElem? (i := 45) rfl) rfl
set_option maxRecDepth 100000 in
theorem wb_cod_251 : Cond.code (wb_y 251) (wb_b 251) (wb_pn 251) (wb_r 251) ∈ wb_TB := wb_tb8 (List.mem_of_getElem? (i := 57) rfl) rfl
set_option maxRecDepth 100000 in
theorem wb_cod_252 : Cond.code (wb_y 252) (wb_b 252) (wb_pn 252) (wb_r 252) ∈ wb_TB := wb_tb8 (List.mem_of_getElem? (i := 61) rfl) rfl
set_option maxRecDepth 100000 in
theorem wb_cod_253 : Cond.code (wb_y 253) (wb_b 253) (wb_pn 253) (wb_r 253) ∈ wb_TB := wb_tb8 (List.mem_of_getElem? (i := 53) rfl) rfl
set_option maxRecDepth 100000 in
theorem wb_cod_254 : Cond.code (wb_y 254) (wb_b 254) (wb_pn 254) (wb_r 254) ∈ wb_TB := wb_tb8 (List.mem_of_getElem? (i := 69) rfl) rfl
set_option maxRecDepth 100000 in
theorem wb_cod_255 : Cond.code (wb_y 255) (wb_b 255) (wb_pn 255) (wb_r 255) ∈ wb_TB := wb_tb8 (List.mem_of_getElem? (i := 65) rfl) rfl
set_option maxRecDepth 100000 in
theorem wb_cod_256 : Cond.code (wb_y 256) (wb_b 256) (wb_pn 256) (wb_r 256) ∈ wb_TB := wb_tb8 (List.mem_of_getElem? (i := 73) rfl) rfl
set_option maxRecDepth 100000 in
theorem wb_cod_257 : Cond.code (wb_y 257) (wb_b 257) (wb_pn 257) (wb_r 257) ∈ wb_TB := wb_tb8 (List.mem_of_getElem? (i := 77) rfl) rfl
set_option maxRecDepth 100000 in
theorem wb_cod_258 : Cond.code (wb_y 258) (wb_b 258) (wb_pn 258) (wb_r 258) ∈ wb_TB := wb_tb8 (List.mem_of_getElem? (i := 81) rfl) rfl
set_option maxRecDepth 100000 in
theorem wb_cod_259 : Cond.code (wb_y 259) (wb_b 259) (wb_pn 259) (wb_r 259) ∈ wb_TB := wb_tb8 (List.mem_of_getElem? (i := 89) rfl) rfl
set_option maxRecDepth 100000 in
theorem wb_cod_260 : Cond.code (wb_y 260) (wb_b 260) (wb_pn 260) (wb_r 260) ∈ wb_TB := wb_tb8 (List.mem_of_getElem? (i := 85) rfl) rfl
set_option maxRecDepth 100000 in
theorem wb_cod_261 : Cond.code (wb_y 261) (wb_b 261) (wb_pn 261) (wb_r 261) ∈ wb_TB := wb_tb8 (List.mem_of_getElem? (i := 93) rfl) rfl
set_option maxRecDepth 100000 in
theorem wb_cod_262 : Cond.code (wb_y 262) (wb_b 262) (wb_pn 262) (wb_r 262) ∈ wb_TB := wb_tb8 (List.mem_of_getElem? (i := 97) rfl) rfl
set_option maxRecDepth 100000 in
theorem wb_cod_263 : Cond.code (wb_y 263) (wb_b 263) (wb_pn 263) (wb_r 263) ∈ wb_TB := wb_tb8 (List.mem_of_getElem? (i := 101) rfl) rfl
set_option maxRecDepth 100000 in
theorem wb_cod_264 : Cond.code (wb_y 264) (wb_b 264) (wb_pn 264) (wb_r 264) ∈ wb_TB := wb_tb5 (List.mem_of_getElem? (i := 58) rfl) rfl
set_option maxRecDepth 100000 in
theorem wb_cod_265 : Cond.code (wb_y 265) (wb_b 265) (wb_pn 265) (wb_r 265) ∈ wb_TB := wb_tb5 (List.mem_of_getElem? (i := 11) rfl) rfl
set_option maxRecDepth 100000 in
theorem wb_cod_266 : Cond.code (wb_y 266) (wb_b 266) (wb_pn 266) (wb_r 266) ∈ wb_TB := wb_tb3 (List.mem_of_getElem? (i := 133) rfl) rfl
set_option maxRecDepth 100000 in
theorem wb_cod_267 : Cond.code (wb_y 267) (wb_b 267) (wb_pn 267) (wb_r 267) ∈ wb_TB := wb_tb3 (List.mem_of_getElem? (i := 136) rfl) rfl
set_option maxRecDepth 100000 in
theorem wb_cod_268 : Cond.code (wb_y 268) (wb_b 268) (wb_pn 268) (wb_r 268) ∈ wb_TB := wb_tb1 (List.mem_of_getElem? (i := 62) rfl) rfl
set_option maxRecDepth 100000 in
theorem wb_cod_269 : Cond.code (wb_y 269) (wb_b 269) (wb_pn 269) (wb_r 269) ∈ wb_TB := wb_tb1 (List.mem_of_getElem? (i := 72) rfl) rfl
set_option maxRecDepth 100000 in
theorem wb_cod_270 : Cond.code (wb_y 270) (wb_b 270) (wb_pn 270) (wb_r 270) ∈ wb_TB := wb_tb3 (List.mem_of_getElem? (i := 119) rfl) rfl
set_option maxRecDepth 100000 in
theorem wb_cod_271 : Cond.code (wb_y 271) (wb_b 271) (wb_pn 271) (wb_r 271) ∈ wb_TB := wb_tb3 (List.mem_of_getElem? (i := 123) rfl) rfl
set_option maxRecDepth 100000 in
theorem wb_cod_272 : Cond.code (wb_y 272) (wb_b 272) (wb_pn 272) (wb_r 272) ∈ wb_TB := wb_tb1 (List.mem_of_getElem? (i := 66) rfl) rfl
set_option maxRecDepth 100000 in
theorem wb_cod_273 : Cond.code (wb_y 273) (wb_b 273) (wb_pn 273) (wb_r 273) ∈ wb_TB := wb_tb1 (List.mem_of_getElem? (i := 76) rfl) rfl
set_option maxRecDepth 100000 in
theorem wb_cod_274 : Cond.code (wb_y 274) (wb_b 274) (wb_pn 274) (wb_r 274) ∈ wb_TB := wb_tb1 (List.mem_of_getElem? (i := 82) rfl) rfl
set_option maxRecDepth 100000 in
theorem wb_cod_275 : Cond.code (wb_y 275) (wb_b 275) (wb_pn 275) (wb_r 275) ∈ wb_TB := wb_tb1 (List.mem_of_getElem? (i := 79) rfl) rfl
set_option maxRecDepth 100000 in
theorem wb_cod_276 : Cond.code (wb_y 276) (wb_b 276) (wb_pn 276) (wb_r 276) ∈ wb_TB := wb_tb3 (List.mem_of_getElem? (i := 130) rfl) rfl
set_option maxRecDepth 100000 in
theorem wb_cod_277 : Cond.code (wb_y 277) (wb_b 277) (wb_pn 277) (wb_r 277) ∈ wb_TB := wb_tb3 (List.mem_of_getElem? (i := 127) rfl) rfl
set_option maxRecDepth 100000 in
theorem wb_cod_278 : Cond.code (wb_y 278) (wb_b 278) (wb_pn 278) (wb_r 278) ∈ wb_TB := wb_tb3 (List.mem_of_getElem? (i := 139) rfl) rfl
set_option maxRecDepth 100000 in
theorem wb_cod_279 : Cond.code (wb_y 279) (wb_b 279) (wb_pn 279) (wb_r 279) ∈ wb_TB := wb_tb4 (List.mem_of_getElem? (i := 114) rfl) rfl
set_option maxRecDepth 100000 in
theorem wb_cod_280 : Cond.code (wb_y 280) (wb_b 280) (wb_pn 280) (wb_r 280) ∈ wb_TB := wb_tb2 (List.mem_of_getElem? (i := 221) rfl) rfl
set_option maxRecDepth 100000 in
theorem wb_cod_281 : Cond.code (wb_y 281) (wb_b 281) (wb_pn 281) (wb_r 281) ∈ wb_TB := wb_tb4 (List.mem_of_getElem? (i := 111) rfl) rfl
set_option maxRecDepth 100000 in
theorem wb_cod_282 : Cond.code (wb_y 282) (wb_b 282) (wb_pn 282) (wb_r 282) ∈ wb_TB := wb_tb1 (List.mem_of_getElem? (i := 87) rfl) rfl
theorem wb_cod : ∀ y, 2 ≤ y → y < 283 → Cond.code (wb_y y) (wb_b y) (wb_pn y) (wb_r y) ∈ wb_TB := by
  intro m h1 h2
  match m, h1, h2 with
  | 2, _, _ => exact wb_cod_2
  | 3, _, _ => exact wb_cod_3
  | 4, _, _ => exact wb_cod_4
  | 5, _, _ => exact wb_cod_5
  | 6, _, _ => exact wb_cod_6
  | 7, _, _ => exact wb_cod_7
  | 8, _, _ => exact wb_cod_8
  | 9, _, _ => exact wb_cod_9
  | 10, _, _ => exact wb_cod_10
  | 11, _, _ => exact wb_cod_11
  | 12, _, _ => exact wb_cod_12
  | 13, _, _ => exact wb_cod_13
  | 14, _, _ => exact wb_cod_14
  | 15, _, _ => exact wb_cod_15
  | 16, _, _ => exact wb_cod_16
  | 17, _, _ => exact wb_cod_17
  | 18, _, _ => exact wb_cod_18
  | 19, _, _ => exact wb_cod_19
  | 20, _, _ => exact wb_cod_20
  | 21, _, _ => exact wb_cod_21
  | 22, _, _ => exact wb_cod_22
  | 23, _, _ => exact wb_cod_23
  | 24, _, _ => exact wb_cod_24
  | 25, _, _ => exact wb_cod_25
  | 26, _, _ => exact wb_cod_26
  | 27, _, _ => exact wb_cod_27
  | 28, _, _ => exact wb_cod_28
  | 29, _, _ => exact wb_cod_29
  | 30, _, _ => exact wb_cod_30
  | 31, _, _ => exact wb_cod_31
  | 32, _, _ => exact wb_cod_32
  | 33, _, _ => exact wb_cod_33
  | 34, _, _ => exact wb_cod_34
  | 35, _, _ => exact wb_cod_35
  | 36, _, _ => exact wb_cod_36
  | 37, _, _ => exact wb_cod_37
  | 38, _, _ => exact wb_cod_38
  | 39, _, _ => exact wb_cod_39
  | 40, _, _ => exact wb_cod_40
  | 41, _, _ => exact wb_cod_41
  | 42, _, _ => exact wb_cod_42
  | 43, _, _ => exact wb_cod_43
  | 44, _, _ => exact wb_cod_44
  | 45, _, _ => exact wb_cod_45
  | 46, _, _ => exact wb_cod_46
  | 47, _, _ => exact wb_cod_47
  | 48, _, _ => exact wb_cod_48
  | 49, _, _ => exact wb_cod_49
  | 50, _, _ => exact wb_cod_50
  | 51, _, _ => exact wb_cod_51
  | 52, _, _ => exact wb_cod_52
  | 53, _, _ => exact wb_cod_53
  | 54, _, _ => exact wb_cod_54
  | 55, _, _ => exact wb_cod_55
  | 56, _, _ => exact wb_cod_56
  | 57, _, _ => exact wb_cod_57
  | 58, _, _ => exact wb_cod_58
  | 59, _, _ => exact wb_cod_59
  | 60, _, _ => exact wb_cod_60
  | 61, _, _ => exact wb_cod_61
  | 62, _, _ => exact wb_cod_62
  | 63, _, _ => exact wb_cod_63
  | 64, _, _ => exact wb_cod_64
  | 65, _, _ => exact wb_cod_65
  | 66, _, _ => exact wb_cod_66
  | 67, _, _ => exact wb_cod_67
  | 68, _, _ => exact wb_cod_68
  | 69, _, _ => exact wb_cod_69
  | 70, _, _ => exact wb_cod_70
  | 71, _, _ => exact wb_cod_71
  | 72, _, _ => exact wb_cod_72
  | 73, _, _ => exact wb_cod_73
  | 74, _, _ => exact wb_cod_74
  | 75, _, _ => exact wb_cod_75
  | 76, _, _ => exact wb_cod_76
  | 77, _, _ => exact wb_cod_77
  | 78, _, _ => exact wb_cod_78
  | 79, _, _ => exact wb_cod_79
  | 80, _, _ => exact wb_cod_80
  | 81, _, _ => exact wb_cod_81
  | 82, _, _ => exact wb_cod_82
  | 83, _, _ => exact wb_cod_83
  | 84, _, _ => exact wb_cod_84
  | 85, _, _ => exact wb_cod_85
  | 86, _, _ => exact wb_cod_86
  | 87, _, _ => exact wb_cod_87
  | 88, _, _ => exact wb_cod_88
  | 89, _, _ => exact wb_cod_89
  | 90, _, _ => exact wb_cod_90
  | 91, _, _ => exact wb_cod_91
  | 92, _, _ => exact wb_cod_92
  | 93, _, _ => exact wb_cod_93
  | 94, _, _ => exact wb_cod_94
  | 95, _, _ => exact wb_cod_95
  | 96, _, _ => exact wb_cod_96
  | 97, _, _ => exact wb_cod_97
  | 98, _, _ => exact wb_cod_98
  | 99, _, _ => exact wb_cod_99
  | 100, _, _ => exact wb_cod_100
  | 101, _, _ => exact wb_cod_101
  | 102, _, _ => exact wb_cod_102
  | 103, _, _ => exact wb_cod_103
  | 104, _, _ => exact wb_cod_104
  | 105, _, _ => exact wb_cod_105
  | 106, _, _ => exact wb_cod_106
  | 107, _, _ => exact wb_cod_107
  | 108, _, _ => exact wb_cod_108
  | 109, _, _ => exact wb_cod_109
  | 110, _, _ => exact wb_cod_110
  | 111, _, _ => exact wb_cod_111
  | 112, _, _ => exact wb_cod_112
  | 113, _, _ => exact wb_cod_113
  | 114, _, _ => exact wb_cod_114
  | 115, _, _ => exact wb_cod_115
  | 116, _, _ => exact wb_cod_116
  | 117, _, _ => exact wb_cod_117
  | 118, _, _ => exact wb_cod_118
  | 119, _, _ => exact wb_cod_119
  | 120, _, _ => exact wb_cod_120
  | 121, _, _ => exact wb_cod_121
  | 122, _, _ => exact wb_cod_122
  | 123, _, _ => exact wb_cod_123
  | 124, _, _ => exact wb_cod_124
  | 125, _, _ => exact wb_cod_125
  | 126, _, _ => exact wb_cod_126
  | 127, _, _ => exact wb_cod_127
  | 128, _, _ => exact wb_cod_128
  | 129, _, _ => exact wb_cod_129
  | 130, _, _ => exact wb_cod_130
  | 131, _, _ => exact wb_cod_131
  | 132, _, _ => exact wb_cod_132
  | 133, _, _ => exact wb_cod_133
  | 134, _, _ => exact wb_cod_134
  | 135, _, _ => exact wb_cod_135
  | 136, _, _ => exact wb_cod_136
  | 137, _, _ => exact wb_cod_137
  | 138, _, _ => exact wb_cod_138
  | 139, _, _ => exact wb_cod_139
  | 140, _, _ => exact wb_cod_140
  | 141, _, _ => exact wb_cod_141
  | 142, _, _ => exact wb_cod_142
  | 143, _, _ => exact wb_cod_143
  | 144, _, _ => exact wb_cod_144
  | 145, _, _ => exact wb_cod_145
  | 146, _, _ => exact wb_cod_146
  | 147, _, _ => exact wb_cod_147
  | 148, _, _ => exact wb_cod_148
  | 149, _, _ => exact wb_cod_149
  | 150, _, _ => exact wb_cod_150
  | 151, _, _ => exact wb_cod_151
  | 152, _, _ => exact wb_cod_152
  | 153, _, _ => exact wb_cod_153
  | 154, _, _ => exact wb_cod_154
  | 155, _, _ => exact wb_cod_155
  | 156, _, _ => exact wb_cod_156
  | 157, _, _ => exact wb_cod_157
  | 158, _, _ => exact wb_cod_158
  | 159, _, _ => exact wb_cod_159
  | 160, _, _ => exact wb_cod_160
  | 161, _, _ => exact wb_cod_161
  | 162, _, _ => exact wb_cod_162
  | 163, _, _ => exact wb_cod_163
  | 164, _, _ => exact wb_cod_164
  | 165, _, _ => exact wb_cod_165
  | 166, _, _ => exact wb_cod_166
  | 167, _, _ => exact wb_cod_167
  | 168, _, _ => exact wb_cod_168
  | 169, _, _ => exact wb_cod_169
  | 170, _, _ => exact wb_cod_170
  | 171, _, _ => exact wb_cod_171
  | 172, _, _ => exact wb_cod_172
  | 173, _, _ => exact wb_cod_173
  | 174, _, _ => exact wb_cod_174
  | 175, _, _ => exact wb_cod_175
  | 176, _, _ => exact wb_cod_176
  | 177, _, _ => exact wb_cod_177
  | 178, _, _ => exact wb_cod_178
  | 179, _, _ => exact wb_cod_179
  | 180, _, _ => exact wb_cod_180
  | 181, _, _ => exact wb_cod_181
  | 182, _, _ => exact wb_cod_182
  | 183, _, _ => exact wb_cod_183
  | 184, _, _ => exact wb_cod_184
  | 185, _, _ => exact wb_cod_185
  | 186, _, _ => exact wb_cod_186
  | 187, _, _ => exact wb_cod_187
  | 188, _, _ => exact wb_cod_188
  | 189, _, _ => exact wb_cod_189
  | 190, _, _ => exact wb_cod_190
  | 191, _, _ => exact wb_cod_191
  | 192, _, _ => exact wb_cod_192
  | 193, _, _ => exact wb_cod_193
  | 194, _, _ => exact wb_cod_194
  | 195, _, _ => exact wb_cod_195
  | 196, _, _ => exact wb_cod_196
  | 197, _, _ => exact wb_cod_197
  | 198, _, _ => exact wb_cod_198
  | 199, _, _ => exact wb_cod_199
  | 200, _, _ => exact wb_cod_200
  | 201, _, _ => exact wb_cod_201
  | 202, _, _ => exact wb_cod_202
  | 203, _, _ => exact wb_cod_203
  | 204, _, _ => exact wb_cod_204
  | 205, _, _ => exact wb_cod_205
  | 206, _, _ => exact wb_cod_206
  | 207, _, _ => exact wb_cod_207
  | 208, _, _ => exact wb_cod_208
  | 209, _, _ => exact wb_cod_209
  | 210, _, _ => exact wb_cod_210
  | 211, _, _ => exact wb_cod_211
  | 212, _, _ => exact wb_cod_212
  | 213, _, _ => exact wb_cod_213
  | 214, _, _ => exact wb_cod_214
  | 215, _, _ => exact wb_cod_215
  | 216, _, _ => exact wb_cod_216
  | 217, _, _ => exact wb_cod_217
  | 218, _, _ => exact wb_cod_218
  | 219, _, _ => exact wb_cod_219
  | 220, _, _ => exact wb_cod_220
  | 221, _, _ => exact wb_cod_221
  | 222, _, _ => exact wb_cod_222
  | 223, _, _ => exact wb_cod_223
  | 224, _, _ => exact wb_cod_224
  | 225, _, _ => exact wb_cod_225
  | 226, _, _ => exact wb_cod_226
  | 227, _, _ => exact wb_cod_227
  | 228, _, _ => exact wb_cod_228
  | 229, _, _ => exact wb_cod_229
  | 230, _, _ => exact wb_cod_230
  | 231, _, _ => exact wb_cod_231
  | 232, _, _ => exact wb_cod_232
  | 233, _, _ => exact wb_cod_233
  | 234, _, _ => exact wb_cod_234
  | 235, _, _ => exact wb_cod_235
  | 236, _, _ => exact wb_cod_236
  | 237, _, _ => exact wb_cod_237
  | 238, _, _ => exact wb_cod_238
  | 239, _, _ => exact wb_cod_239
  | 240, _, _ => exact wb_cod_240
  | 241, _, _ => exact wb_cod_241
  | 242, _, _ => exact wb_cod_242
  | 243, _, _ => exact wb_cod_243
  | 244, _, _ => exact wb_cod_244
  | 245, _, _ => exact wb_cod_245
  | 246, _, _ => exact wb_cod_246
  | 247, _, _ => exact wb_cod_247
  | 248, _, _ => exact wb_cod_248
  | 249, _, _ => exact wb_cod_249
  | 250, _, _ => exact wb_cod_250
  | 251, _, _ => exact wb_cod_251
  | 252, _, _ => exact wb_cod_252
  | 253, _, _ => exact wb_cod_253
  | 254, _, _ => exact wb_cod_254
  | 255, _, _ => exact wb_cod_255
  | 256, _, _ => exact wb_cod_256
  | 257, _, _ => exact wb_cod_257
  | 258, _, _ => exact wb_cod_258
  | 259, _, _ => exact wb_cod_259
  | 260, _, _ => exact wb_cod_260
  | 261, _, _ => exact wb_cod_261
  | 262, _, _ => exact wb_cod_262
  | 263, _, _ => exact wb_cod_263
  | 264, _, _ => exact wb_cod_264
  | 265, _, _ => exact wb_cod_265
  | 266, _, _ => exact wb_cod_266
  | 267, _, _ => exact wb_cod_267
  | 268, _, _ => exact wb_cod_268
  | 269, _, _ => exact wb_cod_269
  | 270, _, _ => exact wb_cod_270
  | 271, _, _ => exact wb_cod_271
  | 272, _, _ => exact wb_cod_272
  | 273, _, _ => exact wb_cod_273
  | 274, _, _ => exact wb_cod_274
  | 275, _, _ => exact wb_cod_275
  | 276, _, _ => exact wb_cod_276
  | 277, _, _ => exact wb_cod_277
  | 278, _, _ => exact wb_cod_278
  | 279, _, _ => exact wb_cod_279
  | 280, _, _ => exact wb_cod_280
  | 281, _, _ => exact wb_cod_281
  | 282, _, _ => exact wb_cod_282
  | 0, h1, _ => exact absurd h1 (by decide)
  | 1, h1, _ => exact absurd h1 (by decide)
  | k + 283, _, h2 => exact absurd h2 (by omega)
