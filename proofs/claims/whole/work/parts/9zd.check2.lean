/-! The code lists keep the check: group 2. -/
theorem wb_chk_159_0 : (((wb_code 159).drop 0).take 40).all (wb_ck 159) = true := by decide +kernel
theorem wb_chk_159_40 : (((wb_code 159).drop 40).take 40).all (wb_ck 159) = true := by decide +kernel
theorem wb_chk_159_80 : (((wb_code 159).drop 80).take 40).all (wb_ck 159) = true := by decide +kernel
theorem wb_chk_159_120 : (((wb_code 159).drop 120).take 40).all (wb_ck 159) = true := by decide +kernel
theorem wb_chk_159_160 : (((wb_code 159).drop 160).take 40).all (wb_ck 159) = true := by decide +kernel
theorem wb_chk_159 : (wb_code 159).all (wb_ck 159) = true := by
  have h : ((wb_code 159).drop 0).all (wb_ck 159) = true := (wb_all_cut (b := 40) rfl wb_chk_159_0 (wb_all_cut (b := 80) rfl wb_chk_159_40 (wb_all_cut (b := 120) rfl wb_chk_159_80 (wb_all_cut (b := 160) rfl wb_chk_159_120 (wb_all_cut (b := 200) rfl wb_chk_159_160 (by decide +kernel : ((wb_code 159).drop 200).all (wb_ck 159) = true))))))
  rw [List.drop_zero] at h
  exact h
theorem wb_chk_160 : (wb_code 160).all (wb_ck 160) = true := by decide +kernel
theorem wb_chk_161 : (wb_code 161).all (wb_ck 161) = true := by decide +kernel
theorem wb_chk_162 : (wb_code 162).all (wb_ck 162) = true := by decide +kernel
theorem wb_chk_163 : (wb_code 163).all (wb_ck 163) = true := by decide +kernel
theorem wb_chk_164 : (wb_code 164).all (wb_ck 164) = true := by decide +kernel
theorem wb_chk_165 : (wb_code 165).all (wb_ck 165) = true := by decide +kernel
theorem wb_chk_166 : (wb_code 166).all (wb_ck 166) = true := by decide +kernel
theorem wb_chk_167_0 : (((wb_code 167).drop 0).take 40).all (wb_ck 167) = true := by decide +kernel
theorem wb_chk_167_40 : (((wb_code 167).drop 40).take 40).all (wb_ck 167) = true := by decide +kernel
theorem wb_chk_167_80 : (((wb_code 167).drop 80).take 40).all (wb_ck 167) = true := by decide +kernel
theorem wb_chk_167_120 : (((wb_code 167).drop 120).take 40).all (wb_ck 167) = true := by decide +kernel
theorem wb_chk_167 : (wb_code 167).all (wb_ck 167) = true := by
  have h : ((wb_code 167).drop 0).all (wb_ck 167) = true := (wb_all_cut (b := 40) rfl wb_chk_167_0 (wb_all_cut (b := 80) rfl wb_chk_167_40 (wb_all_cut (b := 120) rfl wb_chk_167_80 (wb_all_cut (b := 160) rfl wb_chk_167_120 (by decide +kernel : ((wb_code 167).drop 160).all (wb_ck 167) = true)))))
  rw [List.drop_zero] at h
  exact h
theorem wb_chk_168 : (wb_code 168).all (wb_ck 168) = true := by decide +kernel
theorem wb_chk_169 : (wb_code 169).all (wb_ck 169) = true := by decide +kernel
theorem wb_chk_170 : (wb_code 170).all (wb_ck 170) = true := by decide +kernel
theorem wb_chk_171 : (wb_code 171).all (wb_ck 171) = true := by decide +kernel
theorem wb_chk_172 : (wb_code 172).all (wb_ck 172) = true := by decide +kernel
theorem wb_chk_173 : (wb_code 173).all (wb_ck 173) = true := by decide +kernel
theorem wb_chk_174 : (wb_code 174).all (wb_ck 174) = true := by decide +kernel
theorem wb_chk_175 : (wb_code 175).all (wb_ck 175) = true := by decide +kernel
theorem wb_chk_176 : (wb_code 176).all (wb_ck 176) = true := by decide +kernel
theorem wb_chk_177 : (wb_code 177).all (wb_ck 177) = true := by decide +kernel
theorem wb_chk_178 : (wb_code 178).all (wb_ck 178) = true := by decide +kernel
theorem wb_chk_179_0 : (((wb_code 179).drop 0).take 40).all (wb_ck 179) = true := by decide +kernel
theorem wb_chk_179_40 : (((wb_code 179).drop 40).take 40).all (wb_ck 179) = true := by decide +kernel
theorem wb_chk_179_80 : (((wb_code 179).drop 80).take 40).all (wb_ck 179) = true := by decide +kernel
theorem wb_chk_179_120 : (((wb_code 179).drop 120).take 40).all (wb_ck 179) = true := by decide +kernel
theorem wb_chk_179 : (wb_code 179).all (wb_ck 179) = true := by
  have h : ((wb_code 179).drop 0).all (wb_ck 179) = true := (wb_all_cut (b := 40) rfl wb_chk_179_0 (wb_all_cut (b := 80) rfl wb_chk_179_40 (wb_all_cut (b := 120) rfl wb_chk_179_80 (wb_all_cut (b := 160) rfl wb_chk_179_120 (by decide +kernel : ((wb_code 179).drop 160).all (wb_ck 179) = true)))))
  rw [List.drop_zero] at h
  exact h
theorem wb_chk_180 : (wb_code 180).all (wb_ck 180) = true := by decide +kernel
theorem wb_chk_181 : (wb_code 181).all (wb_ck 181) = true := by decide +kernel
theorem wb_chk_182 : (wb_code 182).all (wb_ck 182) = true := by decide +kernel
theorem wb_chk_183 : (wb_code 183).all (wb_ck 183) = true := by decide +kernel
theorem wb_chk_184 : (wb_code 184).all (wb_ck 184) = true := by decide +kernel
theorem wb_chk_185 : (wb_code 185).all (wb_ck 185) = true := by decide +kernel
theorem wb_chk_186 : (wb_code 186).all (wb_ck 186) = true := by decide +kernel
theorem wb_chk_187 : (wb_code 187).all (wb_ck 187) = true := by decide +kernel
theorem wb_chk_188 : (wb_code 188).all (wb_ck 188) = true := by decide +kernel
theorem wb_chk_189 : (wb_code 189).all (wb_ck 189) = true := by decide +kernel
theorem wb_chk_190 : (wb_code 190).all (wb_ck 190) = true := by decide +kernel
theorem wb_chk_191 : (wb_code 191).all (wb_ck 191) = true := by decide +kernel
theorem wb_chk_192 : (wb_code 192).all (wb_ck 192) = true := by decide +kernel
theorem wb_chk_193 : (wb_code 193).all (wb_ck 193) = true := by decide +kernel
theorem wb_chk_194 : (wb_code 194).all (wb_ck 194) = true := by decide +kernel
theorem wb_chk_195 : (wb_code 195).all (wb_ck 195) = true := by decide +kernel
theorem wb_chk_196 : (wb_code 196).all (wb_ck 196) = true := by decide +kernel
theorem wb_chk_197 : (wb_code 197).all (wb_ck 197) = true := by decide +kernel
theorem wb_chk_198 : (wb_code 198).all (wb_ck 198) = true := by decide +kernel
theorem wb_chk_199 : (wb_code 199).all (wb_ck 199) = true := by decide +kernel
theorem wb_chk_200 : (wb_code 200).all (wb_ck 200) = true := by decide +kernel
theorem wb_chk_201_0 : (((wb_code 201).drop 0).take 40).all (wb_ck 201) = true := by decide +kernel
theorem wb_chk_201_40 : (((wb_code 201).drop 40).take 40).all (wb_ck 201) = true := by decide +kernel
theorem wb_chk_201_80 : (((wb_code 201).drop 80).take 40).all (wb_ck 201) = true := by decide +kernel
theorem wb_chk_201_120 : (((wb_code 201).drop 120).take 40).all (wb_ck 201) = true := by decide +kernel
theorem wb_chk_201 : (wb_code 201).all (wb_ck 201) = true := by
  have h : ((wb_code 201).drop 0).all (wb_ck 201) = true := (wb_all_cut (b := 40) rfl wb_chk_201_0 (wb_all_cut (b := 80) rfl wb_chk_201_40 (wb_all_cut (b := 120) rfl wb_chk_201_80 (wb_all_cut (b := 160) rfl wb_chk_201_120 (by decide +kernel : ((wb_code 201).drop 160).all (wb_ck 201) = true)))))
  rw [List.drop_zero] at h
  exact h
theorem wb_chk_202 : (wb_code 202).all (wb_ck 202) = true := by decide +kernel
theorem wb_chk_203 : (wb_code 203).all (wb_ck 203) = true := by decide +kernel
theorem wb_chk_204 : (wb_code 204).all (wb_ck 204) = true := by decide +kernel
theorem wb_chk_205 : (wb_code 205).all (wb_ck 205) = true := by decide +kernel
theorem wb_chk_206 : (wb_code 206).all (wb_ck 206) = true := by decide +kernel
theorem wb_chk_207 : (wb_code 207).all (wb_ck 207) = true := by decide +kernel
theorem wb_chk_208 : (wb_code 208).all (wb_ck 208) = true := by decide +kernel
theorem wb_chk_209 : (wb_code 209).all (wb_ck 209) = true := by decide +kernel
theorem wb_chk_210 : (wb_code 210).all (wb_ck 210) = true := by decide +kernel
theorem wb_chk_211 : (wb_code 211).all (wb_ck 211) = true := by decide +kernel
theorem wb_chk_212 : (wb_code 212).all (wb_ck 212) = true := by decide +kernel
theorem wb_chk_213 : (wb_code 213).all (wb_ck 213) = true := by decide +kernel
theorem wb_chk_214 : (wb_code 214).all (wb_ck 214) = true := by decide +kernel
theorem wb_chk_215 : (wb_code 215).all (wb_ck 215) = true := by decide +kernel
theorem wb_chk_216 : (wb_code 216).all (wb_ck 216) = true := by decide +kernel
theorem wb_chk_217 : (wb_code 217).all (wb_ck 217) = true := by decide +kernel
theorem wb_chk_218_0 : (((wb_code 218).drop 0).take 40).all (wb_ck 218) = true := by decide +kernel
theorem wb_chk_218_40 : (((wb_code 218).drop 40).take 40).all (wb_ck 218) = true := by decide +kernel
theorem wb_chk_218_80 : (((wb_code 218).drop 80).take 40).all (wb_ck 218) = true := by decide +kernel
theorem wb_chk_218_120 : (((wb_code 218).drop 120).take 40).all (wb_ck 218) = true := by decide +kernel
theorem wb_chk_218 : (wb_code 218).all (wb_ck 218) = true := by
  have h : ((wb_code 218).drop 0).all (wb_ck 218) = true := (wb_all_cut (b := 40) rfl wb_chk_218_0 (wb_all_cut (b := 80) rfl wb_chk_218_40 (wb_all_cut (b := 120) rfl wb_chk_218_80 (wb_all_cut (b := 160) rfl wb_chk_218_120 (by decide +kernel : ((wb_code 218).drop 160).all (wb_ck 218) = true)))))
  rw [List.drop_zero] at h
  exact h
theorem wb_chk_219 : (wb_code 219).all (wb_ck 219) = true := by decide +kernel
theorem wb_chk_220 : (wb_code 220).all (wb_ck 220) = true := by decide +kernel
theorem wb_chk_221 : (wb_code 221).all (wb_ck 221) = true := by decide +kernel
theorem wb_chk_222 : (wb_code 222).all (wb_ck 222) = true := by decide +kernel
theorem wb_chk_223 : (wb_code 223).all (wb_ck 223) = true := by decide +kernel
theorem wb_chk_224 : (wb_code 224).all (wb_ck 224) = true := by decide +kernel
theorem wb_chk_225 : (wb_code 225).all (wb_ck 225) = true := by decide +kernel
