/-! The code lists keep the check: group 1. -/
theorem wb_chk_76 : (wb_code 76).all (wb_ck 76) = true := by decide +kernel
theorem wb_chk_77 : (wb_code 77).all (wb_ck 77) = true := by decide +kernel
theorem wb_chk_78 : (wb_code 78).all (wb_ck 78) = true := by decide +kernel
theorem wb_chk_79 : (wb_code 79).all (wb_ck 79) = true := by decide +kernel
theorem wb_chk_80 : (wb_code 80).all (wb_ck 80) = true := by decide +kernel
theorem wb_chk_81 : (wb_code 81).all (wb_ck 81) = true := by decide +kernel
theorem wb_chk_82 : (wb_code 82).all (wb_ck 82) = true := by decide +kernel
theorem wb_chk_83 : (wb_code 83).all (wb_ck 83) = true := by decide +kernel
theorem wb_chk_84 : (wb_code 84).all (wb_ck 84) = true := by decide +kernel
theorem wb_chk_85 : (wb_code 85).all (wb_ck 85) = true := by decide +kernel
theorem wb_chk_86 : (wb_code 86).all (wb_ck 86) = true := by decide +kernel
theorem wb_chk_87 : (wb_code 87).all (wb_ck 87) = true := by decide +kernel
theorem wb_chk_88 : (wb_code 88).all (wb_ck 88) = true := by decide +kernel
theorem wb_chk_89 : (wb_code 89).all (wb_ck 89) = true := by decide +kernel
theorem wb_chk_90 : (wb_code 90).all (wb_ck 90) = true := by decide +kernel
theorem wb_chk_91 : (wb_code 91).all (wb_ck 91) = true := by decide +kernel
theorem wb_chk_92 : (wb_code 92).all (wb_ck 92) = true := by decide +kernel
theorem wb_chk_93 : (wb_code 93).all (wb_ck 93) = true := by decide +kernel
theorem wb_chk_94 : (wb_code 94).all (wb_ck 94) = true := by decide +kernel
theorem wb_chk_95 : (wb_code 95).all (wb_ck 95) = true := by decide +kernel
theorem wb_chk_96 : (wb_code 96).all (wb_ck 96) = true := by decide +kernel
theorem wb_chk_97 : (wb_code 97).all (wb_ck 97) = true := by decide +kernel
theorem wb_chk_98 : (wb_code 98).all (wb_ck 98) = true := by decide +kernel
theorem wb_chk_99 : (wb_code 99).all (wb_ck 99) = true := by decide +kernel
theorem wb_chk_100 : (wb_code 100).all (wb_ck 100) = true := by decide +kernel
theorem wb_chk_101 : (wb_code 101).all (wb_ck 101) = true := by decide +kernel
theorem wb_chk_102 : (wb_code 102).all (wb_ck 102) = true := by decide +kernel
theorem wb_chk_103 : (wb_code 103).all (wb_ck 103) = true := by decide +kernel
theorem wb_chk_104 : (wb_code 104).all (wb_ck 104) = true := by decide +kernel
theorem wb_chk_105 : (wb_code 105).all (wb_ck 105) = true := by decide +kernel
theorem wb_chk_106 : (wb_code 106).all (wb_ck 106) = true := by decide +kernel
theorem wb_chk_107 : (wb_code 107).all (wb_ck 107) = true := by decide +kernel
theorem wb_chk_108 : (wb_code 108).all (wb_ck 108) = true := by decide +kernel
theorem wb_chk_109 : (wb_code 109).all (wb_ck 109) = true := by decide +kernel
theorem wb_chk_110 : (wb_code 110).all (wb_ck 110) = true := by decide +kernel
theorem wb_chk_111 : (wb_code 111).all (wb_ck 111) = true := by decide +kernel
theorem wb_chk_112 : (wb_code 112).all (wb_ck 112) = true := by decide +kernel
theorem wb_chk_113 : (wb_code 113).all (wb_ck 113) = true := by decide +kernel
theorem wb_chk_114 : (wb_code 114).all (wb_ck 114) = true := by decide +kernel
theorem wb_chk_115 : (wb_code 115).all (wb_ck 115) = true := by decide +kernel
theorem wb_chk_116 : (wb_code 116).all (wb_ck 116) = true := by decide +kernel
theorem wb_chk_117 : (wb_code 117).all (wb_ck 117) = true := by decide +kernel
theorem wb_chk_118 : (wb_code 118).all (wb_ck 118) = true := by decide +kernel
theorem wb_chk_119 : (wb_code 119).all (wb_ck 119) = true := by decide +kernel
theorem wb_chk_120 : (wb_code 120).all (wb_ck 120) = true := by decide +kernel
theorem wb_chk_121 : (wb_code 121).all (wb_ck 121) = true := by decide +kernel
theorem wb_chk_122 : (wb_code 122).all (wb_ck 122) = true := by decide +kernel
theorem wb_chk_123 : (wb_code 123).all (wb_ck 123) = true := by decide +kernel
theorem wb_chk_124 : (wb_code 124).all (wb_ck 124) = true := by decide +kernel
theorem wb_chk_125 : (wb_code 125).all (wb_ck 125) = true := by decide +kernel
theorem wb_chk_126 : (wb_code 126).all (wb_ck 126) = true := by decide +kernel
theorem wb_chk_127 : (wb_code 127).all (wb_ck 127) = true := by decide +kernel
theorem wb_chk_128 : (wb_code 128).all (wb_ck 128) = true := by decide +kernel
theorem wb_chk_129 : (wb_code 129).all (wb_ck 129) = true := by decide +kernel
theorem wb_chk_130 : (wb_code 130).all (wb_ck 130) = true := by decide +kernel
theorem wb_chk_131 : (wb_code 131).all (wb_ck 131) = true := by decide +kernel
theorem wb_chk_132 : (wb_code 132).all (wb_ck 132) = true := by decide +kernel
theorem wb_chk_133 : (wb_code 133).all (wb_ck 133) = true := by decide +kernel
theorem wb_chk_134 : (wb_code 134).all (wb_ck 134) = true := by decide +kernel
theorem wb_chk_135 : (wb_code 135).all (wb_ck 135) = true := by decide +kernel
theorem wb_chk_136 : (wb_code 136).all (wb_ck 136) = true := by decide +kernel
theorem wb_chk_137 : (wb_code 137).all (wb_ck 137) = true := by decide +kernel
theorem wb_chk_138 : (wb_code 138).all (wb_ck 138) = true := by decide +kernel
theorem wb_chk_139 : (wb_code 139).all (wb_ck 139) = true := by decide +kernel
theorem wb_chk_140 : (wb_code 140).all (wb_ck 140) = true := by decide +kernel
theorem wb_chk_141 : (wb_code 141).all (wb_ck 141) = true := by decide +kernel
theorem wb_chk_142 : (wb_code 142).all (wb_ck 142) = true := by decide +kernel
theorem wb_chk_143 : (wb_code 143).all (wb_ck 143) = true := by decide +kernel
theorem wb_chk_144 : (wb_code 144).all (wb_ck 144) = true := by decide +kernel
theorem wb_chk_145 : (wb_code 145).all (wb_ck 145) = true := by decide +kernel
theorem wb_chk_146 : (wb_code 146).all (wb_ck 146) = true := by decide +kernel
theorem wb_chk_147 : (wb_code 147).all (wb_ck 147) = true := by decide +kernel
theorem wb_chk_148 : (wb_code 148).all (wb_ck 148) = true := by decide +kernel
theorem wb_chk_149_0 : (((wb_code 149).drop 0).take 40).all (wb_ck 149) = true := by decide +kernel
theorem wb_chk_149_40 : (((wb_code 149).drop 40).take 40).all (wb_ck 149) = true := by decide +kernel
theorem wb_chk_149_80 : (((wb_code 149).drop 80).take 40).all (wb_ck 149) = true := by decide +kernel
theorem wb_chk_149_120 : (((wb_code 149).drop 120).take 40).all (wb_ck 149) = true := by decide +kernel
theorem wb_chk_149_160 : (((wb_code 149).drop 160).take 40).all (wb_ck 149) = true := by decide +kernel
theorem wb_chk_149_200 : (((wb_code 149).drop 200).take 40).all (wb_ck 149) = true := by decide +kernel
theorem wb_chk_149_240 : (((wb_code 149).drop 240).take 40).all (wb_ck 149) = true := by decide +kernel
theorem wb_chk_149_280 : (((wb_code 149).drop 280).take 40).all (wb_ck 149) = true := by decide +kernel
theorem wb_chk_149_320 : (((wb_code 149).drop 320).take 40).all (wb_ck 149) = true := by decide +kernel
theorem wb_chk_149_360 : (((wb_code 149).drop 360).take 40).all (wb_ck 149) = true := by decide +kernel
theorem wb_chk_149_400 : (((wb_code 149).drop 400).take 40).all (wb_ck 149) = true := by decide +kernel
theorem wb_chk_149_440 : (((wb_code 149).drop 440).take 40).all (wb_ck 149) = true := by decide +kernel
theorem wb_chk_149 : (wb_code 149).all (wb_ck 149) = true := by
  have h : ((wb_code 149).drop 0).all (wb_ck 149) = true := (wb_all_cut (b := 40) rfl wb_chk_149_0 (wb_all_cut (b := 80) rfl wb_chk_149_40 (wb_all_cut (b := 120) rfl wb_chk_149_80 (wb_all_cut (b := 160) rfl wb_chk_149_120 (wb_all_cut (b := 200) rfl wb_chk_149_160 (wb_all_cut (b := 240) rfl wb_chk_149_200 (wb_all_cut (b := 280) rfl wb_chk_149_240 (wb_all_cut (b := 320) rfl wb_chk_149_280 (wb_all_cut (b := 360) rfl wb_chk_149_320 (wb_all_cut (b := 400) rfl wb_chk_149_360 (wb_all_cut (b := 440) rfl wb_chk_149_400 (wb_all_cut (b := 480) rfl wb_chk_149_440 (by decide +kernel : ((wb_code 149).drop 480).all (wb_ck 149) = true)))))))))))))
  rw [List.drop_zero] at h
  exact h
theorem wb_chk_150 : (wb_code 150).all (wb_ck 150) = true := by decide +kernel
theorem wb_chk_151 : (wb_code 151).all (wb_ck 151) = true := by decide +kernel
theorem wb_chk_152 : (wb_code 152).all (wb_ck 152) = true := by decide +kernel
theorem wb_chk_153 : (wb_code 153).all (wb_ck 153) = true := by decide +kernel
theorem wb_chk_154 : (wb_code 154).all (wb_ck 154) = true := by decide +kernel
theorem wb_chk_155 : (wb_code 155).all (wb_ck 155) = true := by decide +kernel
theorem wb_chk_156 : (wb_code 156).all (wb_ck 156) = true := by decide +kernel
theorem wb_chk_157 : (wb_code 157).all (wb_ck 157) = true := by decide +kernel
theorem wb_chk_158 : (wb_code 158).all (wb_ck 158) = true := by decide +kernel
