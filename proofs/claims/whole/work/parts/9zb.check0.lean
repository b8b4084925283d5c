/-! The code lists keep the check: group 0. -/
theorem wb_all_cut {α : Type} {f : α → Bool} {l : List α} {a n b : Nat} (hb : a + n = b) (h1 : ((l.drop a).take n).all f = true) (h2 : (l.drop b).all f = true) : (l.drop a).all f = true := by
  subst hb
  rw [← List.take_append_drop n (l.drop a), List.all_append, h1, List.drop_drop, h2]
  rfl
theorem wb_chk_2 : (wb_code 2).all (wb_ck 2) = true := by decide +kernel
theorem wb_chk_3 : (wb_code 3).all (wb_ck 3) = true := by decide +kernel
theorem wb_chk_4 : (wb_code 4).all (wb_ck 4) = true := by decide +kernel
theorem wb_chk_5 : (wb_code 5).all (wb_ck 5) = true := by decide +kernel
theorem wb_chk_6 : (wb_code 6).all (wb_ck 6) = true := by decide +kernel
theorem wb_chk_7 : (wb_code 7).all (wb_ck 7) = true := by decide +kernel
theorem wb_chk_8 : (wb_code 8).all (wb_ck 8) = true := by decide +kernel
theorem wb_chk_9 : (wb_code 9).all (wb_ck 9) = true := by decide +kernel
theorem wb_chk_10 : (wb_code 10).all (wb_ck 10) = true := by decide +kernel
theorem wb_chk_11 : (wb_code 11).all (wb_ck 11) = true := by decide +kernel
theorem wb_chk_12 : (wb_code 12).all (wb_ck 12) = true := by decide +kernel
theorem wb_chk_13 : (wb_code 13).all (wb_ck 13) = true := by decide +kernel
theorem wb_chk_14 : (wb_code 14).all (wb_ck 14) = true := by decide +kernel
theorem wb_chk_15 : (wb_code 15).all (wb_ck 15) = true := by decide +kernel
theorem wb_chk_16 : (wb_code 16).all (wb_ck 16) = true := by decide +kernel
theorem wb_chk_17 : (wb_code 17).all (wb_ck 17) = true := by decide +kernel
theorem wb_chk_18 : (wb_code 18).all (wb_ck 18) = true := by decide +kernel
theorem wb_chk_19 : (wb_code 19).all (wb_ck 19) = true := by decide +kernel
theorem wb_chk_20 : (wb_code 20).all (wb_ck 20) = true := by decide +kernel
theorem wb_chk_21 : (wb_code 21).all (wb_ck 21) = true := by decide +kernel
theorem wb_chk_22 : (wb_code 22).all (wb_ck 22) = true := by decide +kernel
theorem wb_chk_23 : (wb_code 23).all (wb_ck 23) = true := by decide +kernel
theorem wb_chk_24 : (wb_code 24).all (wb_ck 24) = true := by decide +kernel
theorem wb_chk_25 : (wb_code 25).all (wb_ck 25) = true := by decide +kernel
theorem wb_chk_26 : (wb_code 26).all (wb_ck 26) = true := by decide +kernel
theorem wb_chk_27 : (wb_code 27).all (wb_ck 27) = true := by decide +kernel
theorem wb_chk_28_0 : (((wb_code 28).drop 0).take 40).all (wb_ck 28) = true := by decide +kernel
theorem wb_chk_28_40 : (((wb_code 28).drop 40).take 40).all (wb_ck 28) = true := by decide +kernel
theorem wb_chk_28_80 : (((wb_code 28).drop 80).take 40).all (wb_ck 28) = true := by decide +kernel
theorem wb_chk_28_120 : (((wb_code 28).drop 120).take 40).all (wb_ck 28) = true := by decide +kernel
theorem wb_chk_28 : (wb_code 28).all (wb_ck 28) = true := by
  have h : ((wb_code 28).drop 0).all (wb_ck 28) = true := (wb_all_cut (b := 40) rfl wb_chk_28_0 (wb_all_cut (b := 80) rfl wb_chk_28_40 (wb_all_cut (b := 120) rfl wb_chk_28_80 (wb_all_cut (b := 160) rfl wb_chk_28_120 (by decide +kernel : ((wb_code 28).drop 160).all (wb_ck 28) = true)))))
  rw [List.drop_zero] at h
  exact h
theorem wb_chk_29 : (wb_code 29).all (wb_ck 29) = true := by decide +kernel
theorem wb_chk_30 : (wb_code 30).all (wb_ck 30) = true := by decide +kernel
theorem wb_chk_31 : (wb_code 31).all (wb_ck 31) = true := by decide +kernel
theorem wb_chk_32 : (wb_code 32).all (wb_ck 32) = true := by decide +kernel
theorem wb_chk_33 : (wb_code 33).all (wb_ck 33) = true := by decide +kernel
theorem wb_chk_34 : (wb_code 34).all (wb_ck 34) = true := by decide +kernel
theorem wb_chk_35 : (wb_code 35).all (wb_ck 35) = true := by decide +kernel
theorem wb_chk_36 : (wb_code 36).all (wb_ck 36) = true := by decide +kernel
theorem wb_chk_37 : (wb_code 37).all (wb_ck 37) = true := by decide +kernel
theorem wb_chk_38 : (wb_code 38).all (wb_ck 38) = true := by decide +kernel
theorem wb_chk_39 : (wb_code 39).all (wb_ck 39) = true := by decide +kernel
theorem wb_chk_40 : (wb_code 40).all (wb_ck 40) = true := by decide +kernel
theorem wb_chk_41 : (wb_code 41).all (wb_ck 41) = true := by decide +kernel
theorem wb_chk_42 : (wb_code 42).all (wb_ck 42) = true := by decide +kernel
theorem wb_chk_43_0 : (((wb_code 43).drop 0).take 40).all (wb_ck 43) = true := by decide +kernel
theorem wb_chk_43_40 : (((wb_code 43).drop 40).take 40).all (wb_ck 43) = true := by decide +kernel
theorem wb_chk_43_80 : (((wb_code 43).drop 80).take 40).all (wb_ck 43) = true := by decide +kernel
theorem wb_chk_43 : (wb_code 43).all (wb_ck 43) = true := by
  have h : ((wb_code 43).drop 0).all (wb_ck 43) = true := (wb_all_cut (b := 40) rfl wb_chk_43_0 (wb_all_cut (b := 80) rfl wb_chk_43_40 (wb_all_cut (b := 120) rfl wb_chk_43_80 (by decide +kernel : ((wb_code 43).drop 120).all (wb_ck 43) = true))))
  rw [List.drop_zero] at h
  exact h
theorem wb_chk_44 : (wb_code 44).all (wb_ck 44) = true := by decide +kernel
theorem wb_chk_45 : (wb_code 45).all (wb_ck 45) = true := by decide +kernel
theorem wb_chk_46 : (wb_code 46).all (wb_ck 46) = true := by decide +kernel
theorem wb_chk_47 : (wb_code 47).all (wb_ck 47) = true := by decide +kernel
theorem wb_chk_48 : (wb_code 48).all (wb_ck 48) = true := by decide +kernel
theorem wb_chk_49 : (wb_code 49).all (wb_ck 49) = true := by decide +kernel
theorem wb_chk_50 : (wb_code 50).all (wb_ck 50) = true := by decide +kernel
theorem wb_chk_51 : (wb_code 51).all (wb_ck 51) = true := by decide +kernel
theorem wb_chk_52 : (wb_code 52).all (wb_ck 52) = true := by decide +kernel
theorem wb_chk_53 : (wb_code 53).all (wb_ck 53) = true := by decide +kernel
theorem wb_chk_54 : (wb_code 54).all (wb_ck 54) = true := by decide +kernel
theorem wb_chk_55 : (wb_code 55).all (wb_ck 55) = true := by decide +kernel
theorem wb_chk_56 : (wb_code 56).all (wb_ck 56) = true := by decide +kernel
theorem wb_chk_57 : (wb_code 57).all (wb_ck 57) = true := by decide +kernel
theorem wb_chk_58 : (wb_code 58).all (wb_ck 58) = true := by decide +kernel
theorem wb_chk_59 : (wb_code 59).all (wb_ck 59) = true := by decide +kernel
theorem wb_chk_60 : (wb_code 60).all (wb_ck 60) = true := by decide +kernel
theorem wb_chk_61 : (wb_code 61).all (wb_ck 61) = true := by decide +kernel
theorem wb_chk_62 : (wb_code 62).all (wb_ck 62) = true := by decide +kernel
theorem wb_chk_63 : (wb_code 63).all (wb_ck 63) = true := by decide +kernel
theorem wb_chk_64 : (wb_code 64).all (wb_ck 64) = true := by decide +kernel
theorem wb_chk_65 : (wb_code 65).all (wb_ck 65) = true := by decide +kernel
theorem wb_chk_66 : (wb_code 66).all (wb_ck 66) = true := by decide +kernel
theorem wb_chk_67 : (wb_code 67).all (wb_ck 67) = true := by decide +kernel
theorem wb_chk_68 : (wb_code 68).all (wb_ck 68) = true := by decide +kernel
theorem wb_chk_69 : (wb_code 69).all (wb_ck 69) = true := by decide +kernel
theorem wb_chk_70 : (wb_code 70).all (wb_ck 70) = true := by decide +kernel
theorem wb_chk_71 : (wb_code 71).all (wb_ck 71) = true := by decide +kernel
theorem wb_chk_72 : (wb_code 72).all (wb_ck 72) = true := by decide +kernel
theorem wb_chk_73 : (wb_code 73).all (wb_ck 73) = true := by decide +kernel
theorem wb_chk_74 : (wb_code 74).all (wb_ck 74) = true := by decide +kernel
theorem wb_chk_75 : (wb_code 75).all (wb_ck 75) = true := by decide +kernel
