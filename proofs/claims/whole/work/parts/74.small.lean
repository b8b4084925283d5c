/-! Small calls: feed, back, forget, tell, fits, count. -/
theorem sh_u (k : Nat) (x : UInt32) (y : Int32) (h1 : (nN k).toUInt32 &&& Int32.toUInt32 31 = x) (h2 : nN k &&& 31 = y) (a : Int32) : (a.toUInt32 >>> ((nN k).toUInt32 &&& Int32.toUInt32 31)).toInt32 = (a.toUInt32 >>> x).toInt32 ∧ a >>> (nN k &&& 31) = a >>> y := by rw [h1, h2]; exact ⟨rfl, rfl⟩
theorem shr8 (a : BitVec 32) (k : Nat) (hk : k ≤ 24) : (a >>> k).signExtend 8 = (a.sshiftRight k).signExtend 8 := by
  apply BitVec.eq_of_getLsbD_eq
  intro i hi
  rw [BitVec.getLsbD_signExtend, BitVec.getLsbD_signExtend, BitVec.getLsbD_ushiftRight, BitVec.getLsbD_sshiftRight]
  have h1 : i < 32 := by omega
  have h2 : k + i < 32 := by omega
  have h3 : ¬ 32 ≤ i := by omega
  simp [hi, h1, h2, h3]
theorem byte_shr (a : Int32) {k : Nat} (hk : k = 0 ∨ k = 8 ∨ k = 16 ∨ k = 24) : ((a.toUInt32 >>> ((nN k).toUInt32 &&& Int32.toUInt32 31)).toInt32).toInt8 = (a >>> (nN k &&& 31)).toInt8 := by
  rcases hk with rfl | rfl | rfl | rfl
  · exact Int8.toBitVec.inj (shr8 a.toBitVec 0 (by decide))
  · exact Int8.toBitVec.inj (shr8 a.toBitVec 8 (by decide))
  · exact Int8.toBitVec.inj (shr8 a.toBitVec 16 (by decide))
  · exact Int8.toBitVec.inj (shr8 a.toBitVec 24 (by decide))
/-- the byte of a word -/
def byW (a : Int32) (j : Nat) : Int32 := vp_nar .byte ((a >>> (nN (24 - 8 * j) &&& 31)).toInt8.toInt32)
section
variable {sc : wb_X} {B : Nat}
theorem N_m8 {k : Nat} (hk : 8 ≤ k) : nN k + nM 8 = nN (k - 8) := N_addM hk
theorem X_tapeAdd {h : wb_H} {t : Nat} {a : Int32} (ht : t + 4 ≤ 2000) (hl : h.1 18 0 1 = nN t) : Ok (q_Tape_add sc h a) (fun h' => Fr [55, 5001] h h' ∧ h'.1 18 0 1 = nN (t + 4) ∧ (∀ j, j < t → h'.1 55 0 j = h.1 55 0 j) ∧ (∀ j, j < 4 → h'.1 55 0 (t + j) = byW a j)) := by
  have step : ∀ (g : wb_H) (i : Nat), i < 4 → g.1 18 0 1 = nN (t + i) → q_Tape_add_L3 sc g a (nN (24 - 8 * i)) = q_Tape_add_L3 sc (wb_iu (wb_iu g 55 0 (t + i) (byW a i)) 18 0 1 (nN (t + i + 1))) a (nN (24 - 8 * i) + nM 8) := by
    intro g i hi hg
    rw [q_Tape_add_L3_eq]
    simp (disch := omega) only [L_0, L_1, L_2, L_3, L_4, L_5, L_6, L_7, L_8, L_9, L_10, L_11, L_12, L_13, L_14, L_15, L_16, L_17, L_18, L_19, L_20, L_21, L_22, L_23, L_24, L_25, L_26, L_27, L_28, L_29, L_30, L_31, L_32, L_33, L_34, L_35, L_40, L_41, L_42, L_43, L_44, L_45, L_47, L_48, L_50, L_53, L_57, L_59, L_60, L_61, L_63, L_64, L_97, L_100, L_101, L_102, L_103, L_122, L_130, L_216, L_255, L_364, L_400, L_402, L_420, L_728, L_768, L_999, L_1000, L_1093, L_1872, L_2000, L_9999, L_12345, L_252645135, L_858993459, L_1103515245, L_1431655765, Lm_1, Lm_2, Lm_8, N_zero, N_cast, N_add, N_mul, N_sub, N_addM, N_lt_tp, N_lt_fp, N_le_tp, N_le_fp, N_eq_tp, N_eq_fp, MN_ltp, MN_lep, NM_ltp, NM_lep, NM_eqp, MN_eqp, MM_lt_tp, MM_lt_fp, MM_le_tp, MM_le_fp, MM_eq_tp, MM_eq_fp, N_cl, N_in_t, N_in_f, M_in, N_div, N_rem, N_nb0, N_nb1, cond_true, cond_false, Bool.not_true, Bool.not_false, Bool.and_true, Bool.true_and, Bool.and_false, Bool.false_and, decide_true, decide_false, Option.bind_some, Option.bind_none, hg, iu_nt (show 18 ≠ 55 by decide)]
    rw [q_Tape_add_L40_eq, byte_shr a (by omega)]
    rfl
  have stop : ∀ g : wb_H, q_Tape_add_L3 sc g a (nM 8) = some g := by
    intro g
    rw [q_Tape_add_L3_eq]
    simp (disch := omega) only [L_0, L_1, L_2, L_3, L_4, L_5, L_6, L_7, L_8, L_9, L_10, L_11, L_12, L_13, L_14, L_15, L_16, L_17, L_18, L_19, L_20, L_21, L_22, L_23, L_24, L_25, L_26, L_27, L_28, L_29, L_30, L_31, L_32, L_33, L_34, L_35, L_40, L_41, L_42, L_43, L_44, L_45, L_47, L_48, L_50, L_53, L_57, L_59, L_60, L_61, L_63, L_64, L_97, L_100, L_101, L_102, L_103, L_122, L_130, L_216, L_255, L_364, L_400, L_402, L_420, L_728, L_768, L_999, L_1000, L_1093, L_1872, L_2000, L_9999, L_12345, L_252645135, L_858993459, L_1103515245, L_1431655765, Lm_1, Lm_2, Lm_8, N_zero, N_cast, N_add, N_mul, N_sub, N_addM, N_lt_tp, N_lt_fp, N_le_tp, N_le_fp, N_eq_tp, N_eq_fp, MN_ltp, MN_lep, NM_ltp, NM_lep, NM_eqp, MN_eqp, MM_lt_tp, MM_lt_fp, MM_le_tp, MM_le_fp, MM_eq_tp, MM_eq_fp, N_cl, N_in_t, N_in_f, M_in, N_div, N_rem, N_nb0, N_nb1, cond_true, cond_false, Bool.not_true, Bool.not_false, Bool.and_true, Bool.true_and, Bool.and_false, Bool.false_and, decide_true, decide_false, Option.bind_some, Option.bind_none]
  rw [q_Tape_add_eq]
  have m : ∀ i, i < 3 → nN (24 - 8 * i) + nM 8 = nN (24 - 8 * (i + 1)) := fun i hi => by rw [N_m8 (by omega)]; congr 1
  have s0 := step h 0 (by decide) hl
  rw [m 0 (by decide)] at s0
  have s1 := step _ 1 (by decide) (iu_at (h := wb_iu h 55 0 (t + 0) (byW a 0)) (t := 18) (o := 0) (k := 1) (v := nN (t + 0 + 1)))
  rw [m 1 (by decide)] at s1
  have s2 := step _ 2 (by decide) (iu_at (h := wb_iu (wb_iu (wb_iu h 55 0 (t + 0) (byW a 0)) 18 0 1 (nN (t + 0 + 1))) 55 0 (t + 1) (byW a 1)) (t := 18) (o := 0) (k := 1) (v := nN (t + 1 + 1)))
  rw [m 2 (by decide)] at s2
  have s3 := step _ 3 (by decide) (iu_at (h := wb_iu (wb_iu (wb_iu (wb_iu (wb_iu h 55 0 (t + 0) (byW a 0)) 18 0 1 (nN (t + 0 + 1))) 55 0 (t + 1) (byW a 1)) 18 0 1 (nN (t + 1 + 1))) 55 0 (t + 2) (byW a 2)) (t := 18) (o := 0) (k := 1) (v := nN (t + 2 + 1)))
  have e : q_Tape_add_L3 sc h a (Int32.ofInt 24) = some _ := s0.trans (s1.trans (s2.trans (s3.trans (by rw [show nN (24 - 8 * 3) + nM 8 = nM 8 from by decide]; exact stop _))))
  rw [e]
  refine Ok_some ⟨?_, iu_at, fun j hj => ?_, fun j hj => ?_⟩
  · exact Fr_trans (Fr_trans (Fr_trans (Fr_trans (Fr_trans (Fr_trans (Fr_trans (Fr_iu rfl) (Fr_iu rfl)) (Fr_iu rfl)) (Fr_iu rfl)) (Fr_iu rfl)) (Fr_iu rfl)) (Fr_iu rfl)) (Fr_iu rfl)
  · rw [iu_nt (by decide), iu_ne (by omega), iu_nt (by decide), iu_ne (by omega), iu_nt (by decide), iu_ne (by omega), iu_nt (by decide), iu_ne (by omega)]
  · rcases (show j = 0 ∨ j = 1 ∨ j = 2 ∨ j = 3 by omega) with z | z | z | z <;> subst z
    · rw [iu_nt (by decide), iu_ne (by omega), iu_nt (by decide), iu_ne (by omega), iu_nt (by decide), iu_ne (by omega), iu_nt (by decide), iu_at]
    · rw [iu_nt (by decide), iu_ne (by omega), iu_nt (by decide), iu_ne (by omega), iu_nt (by decide), iu_at]
    · rw [iu_nt (by decide), iu_ne (by omega), iu_nt (by decide), iu_at]
    · rw [iu_nt (by decide), iu_at]
theorem M_tapePut {h : wb_H} {t : Nat} {a : Int32} (ht : t + 4 ≤ 2000) (hl : h.1 21 0 2 = nN t) : Ok (q_M_put sc h a) (fun h' => Fr [65, 1002] h h' ∧ h'.1 21 0 2 = nN (t + 4) ∧ (∀ j, j < t → h'.1 65 0 j = h.1 65 0 j) ∧ (∀ j, j < 4 → h'.1 65 0 (t + j) = byW a j)) := by
  have step : ∀ (g : wb_H) (i : Nat), i < 4 → g.1 21 0 2 = nN (t + i) → q_M_put_L3 sc g a (nN (24 - 8 * i)) = q_M_put_L3 sc (wb_iu (wb_iu g 65 0 (t + i) (byW a i)) 21 0 2 (nN (t + i + 1))) a (nN (24 - 8 * i) + nM 8) := by
    intro g i hi hg
    rw [q_M_put_L3_eq]
    simp (disch := omega) only [L_0, L_1, L_2, L_3, L_4, L_5, L_6, L_7, L_8, L_9, L_10, L_11, L_12, L_13, L_14, L_15, L_16, L_17, L_18, L_19, L_20, L_21, L_22, L_23, L_24, L_25, L_26, L_27, L_28, L_29, L_30, L_31, L_32, L_33, L_34, L_35, L_40, L_41, L_42, L_43, L_44, L_45, L_47, L_48, L_50, L_53, L_57, L_59, L_60, L_61, L_63, L_64, L_97, L_100, L_101, L_102, L_103, L_122, L_130, L_216, L_255, L_364, L_400, L_402, L_420, L_728, L_768, L_999, L_1000, L_1093, L_1872, L_2000, L_9999, L_12345, L_252645135, L_858993459, L_1103515245, L_1431655765, Lm_1, Lm_2, Lm_8, N_zero, N_cast, N_add, N_mul, N_sub, N_addM, N_lt_tp, N_lt_fp, N_le_tp, N_le_fp, N_eq_tp, N_eq_fp, MN_ltp, MN_lep, NM_ltp, NM_lep, NM_eqp, MN_eqp, MM_lt_tp, MM_lt_fp, MM_le_tp, MM_le_fp, MM_eq_tp, MM_eq_fp, N_cl, N_in_t, N_in_f, M_in, N_div, N_rem, N_nb0, N_nb1, cond_true, cond_false, Bool.not_true, Bool.not_false, Bool.and_true, Bool.true_and, Bool.and_false, Bool.false_and, decide_true, decide_false, Option.bind_some, Option.bind_none, hg, iu_nt (show 21 ≠ 65 by decide)]
    rfl
  have stop : ∀ g : wb_H, q_M_put_L3 sc g a (nM 8) = some g := by
    intro g
    rw [q_M_put_L3_eq]
    simp (disch := omega) only [L_0, L_1, L_2, L_3, L_4, L_5, L_6, L_7, L_8, L_9, L_10, L_11, L_12, L_13, L_14, L_15, L_16, L_17, L_18, L_19, L_20, L_21, L_22, L_23, L_24, L_25, L_26, L_27, L_28, L_29, L_30, L_31, L_32, L_33, L_34, L_35, L_40, L_41, L_42, L_43, L_44, L_45, L_47, L_48, L_50, L_53, L_57, L_59, L_60, L_61, L_63, L_64, L_97, L_100, L_101, L_102, L_103, L_122, L_130, L_216, L_255, L_364, L_400, L_402, L_420, L_728, L_768, L_999, L_1000, L_1093, L_1872, L_2000, L_9999, L_12345, L_252645135, L_858993459, L_1103515245, L_1431655765, Lm_1, Lm_2, Lm_8, N_zero, N_cast, N_add, N_mul, N_sub, N_addM, N_lt_tp, N_lt_fp, N_le_tp, N_le_fp, N_eq_tp, N_eq_fp, MN_ltp, MN_lep, NM_ltp, NM_lep, NM_eqp, MN_eqp, MM_lt_tp, MM_lt_fp, MM_le_tp, MM_le_fp, MM_eq_tp, MM_eq_fp, N_cl, N_in_t, N_in_f, M_in, N_div, N_rem, N_nb0, N_nb1, cond_true, cond_false, Bool.not_true, Bool.not_false, Bool.and_true, Bool.true_and, Bool.and_false, Bool.false_and, decide_true, decide_false, Option.bind_some, Option.bind_none]
  rw [q_M_put_eq]
  have m : ∀ i, i < 3 → nN (24 - 8 * i) + nM 8 = nN (24 - 8 * (i + 1)) := fun i hi => by rw [N_m8 (by omega)]; congr 1
  have s0 := step h 0 (by decide) hl
  rw [m 0 (by decide)] at s0
  have s1 := step _ 1 (by decide) (iu_at (h := wb_iu h 65 0 (t + 0) (byW a 0)) (t := 21) (o := 0) (k := 2) (v := nN (t + 0 + 1)))
  rw [m 1 (by decide)] at s1
  have s2 := step _ 2 (by decide) (iu_at (h := wb_iu (wb_iu (wb_iu h 65 0 (t + 0) (byW a 0)) 21 0 2 (nN (t + 0 + 1))) 65 0 (t + 1) (byW a 1)) (t := 21) (o := 0) (k := 2) (v := nN (t + 1 + 1)))
  rw [m 2 (by decide)] at s2
  have s3 := step _ 3 (by decide) (iu_at (h := wb_iu (wb_iu (wb_iu (wb_iu (wb_iu h 65 0 (t + 0) (byW a 0)) 21 0 2 (nN (t + 0 + 1))) 65 0 (t + 1) (byW a 1)) 21 0 2 (nN (t + 1 + 1))) 65 0 (t + 2) (byW a 2)) (t := 21) (o := 0) (k := 2) (v := nN (t + 2 + 1)))
  have e : q_M_put_L3 sc h a (Int32.ofInt 24) = some _ := s0.trans (s1.trans (s2.trans (s3.trans (by rw [show nN (24 - 8 * 3) + nM 8 = nM 8 from by decide]; exact stop _))))
  rw [e]
  refine Ok_some ⟨?_, iu_at, fun j hj => ?_, fun j hj => ?_⟩
  · exact Fr_trans (Fr_trans (Fr_trans (Fr_trans (Fr_trans (Fr_trans (Fr_trans (Fr_iu rfl) (Fr_iu rfl)) (Fr_iu rfl)) (Fr_iu rfl)) (Fr_iu rfl)) (Fr_iu rfl)) (Fr_iu rfl)) (Fr_iu rfl)
  · rw [iu_nt (by decide), iu_ne (by omega), iu_nt (by decide), iu_ne (by omega), iu_nt (by decide), iu_ne (by omega), iu_nt (by decide), iu_ne (by omega)]
  · rcases (show j = 0 ∨ j = 1 ∨ j = 2 ∨ j = 3 by omega) with z | z | z | z <;> subst z
    · rw [iu_nt (by decide), iu_ne (by omega), iu_nt (by decide), iu_ne (by omega), iu_nt (by decide), iu_ne (by omega), iu_nt (by decide), iu_at]
    · rw [iu_nt (by decide), iu_ne (by omega), iu_nt (by decide), iu_ne (by omega), iu_nt (by decide), iu_at]
    · rw [iu_nt (by decide), iu_ne (by omega), iu_nt (by decide), iu_at]
    · rw [iu_nt (by decide), iu_at]
def DL1 : List Nat := [17, 54, 100, 9001, 9002, 1054, 61, 108, 109, 95, 2002, 2003]
def DL2 : List Nat := [22, 23, 24, 25, 26, 104, 105, 106, 107, 7005, 1059]
def DL3 : List Nat := [5001, 55, 65, 1002]
def DL4 : List Nat := [4009, 1017, 56, 71]
theorem Diary_f2 {L : List Nat} {h h' : wb_H} {T : wT} (F : Fr L h h') (d : wb_dj DL2 L = true) (H : Diary h T) : Diary h' T := by
  have g : ∀ x, wb_mem x DL2 = true → wb_mem x L = false := fun x hx => wb_dj_mem d hx
  obtain ⟨k, h1, h2, h3, h4⟩ := H
  refine ⟨k, h1, (Fr_i F (by exact g 7005 rfl)).trans h2, (Fr_i F (by exact g 1059 rfl)).trans h3, fun j hj => ?_⟩
  obtain ⟨a, b, u, sg, ld, br, c1, c2, c3, c4, c5, c6, d1, d2, d3, d4, d5, d6, d7, d8, d9⟩ := h4 j hj
  exact ⟨a, b, u, sg, ld, br, c1, c2, c3, c4, c5, c6, (Fr_i F (by exact g 22 rfl)).trans d1, (Fr_i F (by exact g 104 rfl)).trans d2, (Fr_i F (by exact g 23 rfl)).trans d3, (Fr_i F (by exact g 105 rfl)).trans d4, (Fr_i F (by exact g 106 rfl)).trans d5, (Fr_i F (by exact g 24 rfl)).trans d6, (Fr_i F (by exact g 25 rfl)).trans d7, (Fr_i F (by exact g 26 rfl)).trans d8, (Fr_i F (by exact g 107 rfl)).trans d9⟩
theorem Tape_f2 {L : List Nat} {h h' : wb_H} (F : Fr L h h') (d : wb_dj DL3 L = true) (H : Tape h) : Tape h' := by
  have g : ∀ x, wb_mem x DL3 = true → wb_mem x L = false := fun x hx => wb_dj_mem d hx
  obtain ⟨t, h1, h2, h3, h4⟩ := H
  refine ⟨t, h1, (Fr_i F (by exact g 5001 rfl)).trans h2, (Fr_i F (by exact g 1002 rfl)).trans h3, fun j hj => ?_⟩
  rw [Fr_i F (t := 55) (by exact g 55 rfl), Fr_i F (t := 65) (by exact g 65 rfl)]
  exact h4 j hj
theorem Keys_f2 {L : List Nat} {h h' : wb_H} (F : Fr L h h') (d : wb_dj DL4 L = true) (H : Keys h) : Keys h' := by
  have g : ∀ x, wb_mem x DL4 = true → wb_mem x L = false := fun x hx => wb_dj_mem d hx
  obtain ⟨h1, h2, h3⟩ := H
  refine ⟨?_, fun k hk => (Fr_l F (by exact g 56 rfl)).trans (h2 k hk), fun k hk => (Fr_l F (by exact g 71 rfl)).trans (h3 k hk)⟩
  rw [Fr_i F (t := 16) (k := 9) (by exact g 4009 rfl), Fr_i F (t := 21) (k := 17) (by exact g 1017 rfl)]
  exact h1
theorem Core_gen {L : List Nat} {h h5 : wb_H} {T : wT} {R : wR} {v q s : Nat} (C : Core h T R v q s B) (F : Fr L h h5) (d1 : wb_dj DL1 L = true) (d2 : wb_dj CL2 L = true) (d3 : wb_dj TT1 L = true) (d4 : wb_dj TT2 L = true) (Di : Diary h5 T) (Tp : Tape h5) (K : Keys h5) : Core h5 T R v q s B := by
  have g : ∀ x, wb_mem x DL1 = true → wb_mem x L = false := fun x hx => wb_dj_mem d1 hx
  obtain ⟨a1, a2, a3, a4, a5, a6, a7, a8, a9, a10, a11, a12, a13⟩ := C
  refine ⟨a1, a2, a3, XT_fr F d2 a4, MT_fr F d3 d4 a5, (Fr_m F (by exact g 2002 rfl)).trans a6, (Fr_m F (by exact g 2003 rfl)).trans a7, SR_fr F (g 17 rfl) (g 54 rfl) (fun _ => by exact g 95 rfl) a1.1 a8, ?_, ?_, Di, Tp, K⟩
  · obtain ⟨nx, c, h1, h2, h3, h4, h5, h6⟩ := a9
    refine ⟨nx, c, h1, h2, (Fr_i F (by exact g 9001 rfl)).trans h3, (Fr_i F (by exact g 9002 rfl)).trans h4, (Fr_i F (by exact g 1054 rfl)).trans h5, fun j hj => ?_⟩
    obtain ⟨R, v, a, b, e⟩ := h6 j hj
    exact ⟨R, v, a, b, SR_fr F (g 17 rfl) (g 54 rfl) (fun _ => by exact g 100 rfl) a1.1 e⟩
  · intro j hj
    obtain ⟨b, h1, h2, h3, h4⟩ := a10 j hj
    refine ⟨b, h1, (Fr_i F (by exact g 61 rfl)).trans h2, (Fr_i F (by exact g 108 rfl)).trans h3, fun e => ?_⟩
    obtain ⟨R, v, a, c, e⟩ := h4 e
    exact ⟨R, v, a, c, SR_fr F (g 17 rfl) (g 54 rfl) (fun _ => by exact g 109 rfl) a1.1 e⟩
theorem tape5 {Q : wb_H → wb_H → Prop} {P : Nat → wb_H → Prop} {f : Int32 → wb_H → Option wb_H} : True := trivial
theorem c_feed {h : wb_H} (I : Inv h B) (a b c d e : Int32) : Same (fun h => q_X_feed sc h a b c d e) (fun h => q_M_feed sc h a b c d e) h B := by
  obtain ⟨T, R, v, q, s, C, D⟩ := I
  obtain ⟨t, t1, t2, t3, t4⟩ := C.2.2.2.2.2.2.2.2.2.2.2.1
  by_cases z : t + 20 ≤ 2000
  · have hX : Ok (q_X_feed sc h a b c d e) (fun r => r.1 = nN (t + 20) ∧ Fr [55, 5001] h r.2 ∧ r.2.1 18 0 1 = nN (t + 20) ∧ (∀ j, j < t → r.2.1 55 0 j = h.1 55 0 j) ∧ (∀ j, j < 4 → r.2.1 55 0 (t + j) = byW a j ∧ r.2.1 55 0 (t + 4 + j) = byW b j ∧ r.2.1 55 0 (t + 8 + j) = byW c j ∧ r.2.1 55 0 (t + 12 + j) = byW d j ∧ r.2.1 55 0 (t + 16 + j) = byW e j)) := by
      rw [q_X_feed_eq, q_Tape_hasRoomFor_eq]
      simp (disch := omega) only [L_0, L_1, L_2, L_3, L_4, L_5, L_6, L_7, L_8, L_9, L_10, L_11, L_12, L_13, L_14, L_15, L_16, L_17, L_18, L_19, L_20, L_21, L_22, L_23, L_24, L_25, L_26, L_27, L_28, L_29, L_30, L_31, L_32, L_33, L_34, L_35, L_40, L_41, L_42, L_43, L_44, L_45, L_47, L_48, L_50, L_53, L_57, L_59, L_60, L_61, L_63, L_64, L_97, L_100, L_101, L_102, L_103, L_122, L_130, L_216, L_255, L_364, L_400, L_402, L_420, L_728, L_768, L_999, L_1000, L_1093, L_1872, L_2000, L_9999, L_12345, L_252645135, L_858993459, L_1103515245, L_1431655765, Lm_1, Lm_2, Lm_8, N_zero, N_cast, N_add, N_mul, N_sub, N_addM, N_lt_tp, N_lt_fp, N_le_tp, N_le_fp, N_eq_tp, N_eq_fp, MN_ltp, MN_lep, NM_ltp, NM_lep, NM_eqp, MN_eqp, MM_lt_tp, MM_lt_fp, MM_le_tp, MM_le_fp, MM_eq_tp, MM_eq_fp, N_cl, N_in_t, N_in_f, M_in, N_div, N_rem, N_nb0, N_nb1, cond_true, cond_false, Bool.not_true, Bool.not_false, Bool.and_true, Bool.true_and, Bool.and_false, Bool.false_and, decide_true, decide_false, Option.bind_some, Option.bind_none, t2]
      refine Ok_bind (X_tapeAdd (by omega) t2) ?_
      rintro h1 ⟨F1, l1, o1, n1⟩
      refine Ok_bind (X_tapeAdd (t := t + 4) (by omega) l1) ?_
      rintro h2 ⟨F2, l2, o2, n2⟩
      refine Ok_bind (X_tapeAdd (t := t + 4 + 4) (by omega) l2) ?_
      rintro h3 ⟨F3, l3, o3, n3⟩
      refine Ok_bind (X_tapeAdd (t := t + 4 + 4 + 4) (by omega) l3) ?_
      rintro h4 ⟨F4, l4, o4, n4⟩
      refine Ok_bind (X_tapeAdd (t := t + 4 + 4 + 4 + 4) (by omega) l4) ?_
      rintro h5 ⟨F5, l5, o5, n5⟩
      refine Ok_some ⟨l5, Fr_trans F1 (Fr_trans F2 (Fr_trans F3 (Fr_trans F4 F5))), l5, fun j hj => ?_, fun j hj => ⟨?_, ?_, ?_, ?_, ?_⟩⟩
      · show h5.1 55 0 j = _
        rw [o5 _ (by omega), o4 _ (by omega), o3 _ (by omega), o2 _ (by omega), o1 _ hj]
      · show h5.1 55 0 (t + j) = _
        rw [o5 _ (by omega), o4 _ (by omega), o3 _ (by omega), o2 _ (by omega), n1 j hj]
      · show h5.1 55 0 (t + 4 + j) = _
        rw [o5 _ (by omega), o4 _ (by omega), o3 _ (by omega), n2 j hj]
      · show h5.1 55 0 (t + 4 + 4 + j) = _
        rw [o5 _ (by omega), o4 _ (by omega), n3 j hj]
      · show h5.1 55 0 (t + 4 + 4 + 4 + j) = _
        rw [o5 _ (by omega), n4 j hj]
      · exact n5 j hj
    refine Ok_w hX ?_
    rintro ⟨x, k⟩ ⟨x1, F, l, o, n⟩
    simp only at x1 F l o n ⊢
    have t3' : k.1 21 0 2 = nN t := (Fr_i F (by rfl)).trans t3
    have o65 : ∀ j, k.1 65 0 j = h.1 65 0 j := fun j => Fr_i F (by rfl)
    rw [q_M_feed_eq]
    simp (disch := omega) only [L_0, L_1, L_2, L_3, L_4, L_5, L_6, L_7, L_8, L_9, L_10, L_11, L_12, L_13, L_14, L_15, L_16, L_17, L_18, L_19, L_20, L_21, L_22, L_23, L_24, L_25, L_26, L_27, L_28, L_29, L_30, L_31, L_32, L_33, L_34, L_35, L_40, L_41, L_42, L_43, L_44, L_45, L_47, L_48, L_50, L_53, L_57, L_59, L_60, L_61, L_63, L_64, L_97, L_100, L_101, L_102, L_103, L_122, L_130, L_216, L_255, L_364, L_400, L_402, L_420, L_728, L_768, L_999, L_1000, L_1093, L_1872, L_2000, L_9999, L_12345, L_252645135, L_858993459, L_1103515245, L_1431655765, Lm_1, Lm_2, Lm_8, N_zero, N_cast, N_add, N_mul, N_sub, N_addM, N_lt_tp, N_lt_fp, N_le_tp, N_le_fp, N_eq_tp, N_eq_fp, MN_ltp, MN_lep, NM_ltp, NM_lep, NM_eqp, MN_eqp, MM_lt_tp, MM_lt_fp, MM_le_tp, MM_le_fp, MM_eq_tp, MM_eq_fp, N_cl, N_in_t, N_in_f, M_in, N_div, N_rem, N_nb0, N_nb1, cond_true, cond_false, Bool.not_true, Bool.not_false, Bool.and_true, Bool.true_and, Bool.and_false, Bool.false_and, decide_true, decide_false, Option.bind_some, Option.bind_none, t3']
    refine Ok_bind (M_tapePut (by omega) t3') ?_
    rintro h1 ⟨F1, l1, o1, n1⟩
    refine Ok_bind (M_tapePut (t := t + 4) (by omega) l1) ?_
    rintro h2 ⟨F2, l2, o2, n2⟩
    refine Ok_bind (M_tapePut (t := t + 4 + 4) (by omega) l2) ?_
    rintro h3 ⟨F3, l3, o3, n3⟩
    refine Ok_bind (M_tapePut (t := t + 4 + 4 + 4) (by omega) l3) ?_
    rintro h4 ⟨F4, l4, o4, n4⟩
    refine Ok_bind (M_tapePut (t := t + 4 + 4 + 4 + 4) (by omega) l4) ?_
    rintro h5 ⟨F5, l5, o5, n5⟩
    have FM : Fr [65, 1002] k h5 := Fr_trans F1 (Fr_trans F2 (Fr_trans F3 (Fr_trans F4 F5)))
    have FF : Fr [55, 5001, 65, 1002] h h5 := Fr_trans (Fr_mono F rfl) (Fr_mono FM rfl)
    refine Ok_some ⟨?_, T, R, v, q, s, Core_gen C FF rfl rfl rfl rfl (Diary_f2 FF rfl C.2.2.2.2.2.2.2.2.2.2.1) ?_ (Keys_f2 FF rfl C.2.2.2.2.2.2.2.2.2.2.2.2), Cache_fr FF rfl rfl rfl D⟩
    · show h5.1 21 0 2 = x
      rw [x1]; exact l5
    · refine ⟨t + 20, z, (Fr_i FM (by rfl)).trans l, l5, fun j hj => ?_⟩
      rw [Fr_i FM (t := 55) (by rfl)]
      by_cases y : j < t
      · rw [o j y, o5 _ (by omega), o4 _ (by omega), o3 _ (by omega), o2 _ (by omega), o1 _ y, o65]; exact t4 j y
      · obtain ⟨i, hi⟩ : ∃ i, j = t + i := ⟨j - t, by omega⟩
        subst hi
        rcases (show i < 4 ∨ (4 ≤ i ∧ i < 8) ∨ (8 ≤ i ∧ i < 12) ∨ (12 ≤ i ∧ i < 16) ∨ (16 ≤ i ∧ i < 20) by omega) with w | w | w | w | w
        · rw [(n i w).1, o5 _ (by omega), o4 _ (by omega), o3 _ (by omega), o2 _ (by omega), n1 i w]
        · have a1 := (n (i - 4) (by omega)).2.1
          have a2 := n2 (i - 4) (by omega)
          rw [show t + 4 + (i - 4) = t + i by omega] at a1 a2
          rw [a1, o5 _ (by omega), o4 _ (by omega), o3 _ (by omega), a2]
        · have a1 := (n (i - 8) (by omega)).2.2.1
          have a2 := n3 (i - 8) (by omega)
          rw [show t + 8 + (i - 8) = t + i by omega] at a1
          rw [show t + 4 + 4 + (i - 8) = t + i by omega] at a2
          rw [a1, o5 _ (by omega), o4 _ (by omega), a2]
        · have a1 := (n (i - 12) (by omega)).2.2.2.1
          have a2 := n4 (i - 12) (by omega)
          rw [show t + 12 + (i - 12) = t + i by omega] at a1
          rw [show t + 4 + 4 + 4 + (i - 12) = t + i by omega] at a2
          rw [a1, o5 _ (by omega), a2]
        · have a1 := (n (i - 16) (by omega)).2.2.2.2
          have a2 := n5 (i - 16) (by omega)
          rw [show t + 16 + (i - 16) = t + i by omega] at a1
          rw [show t + 4 + 4 + 4 + 4 + (i - 16) = t + i by omega] at a2
          rw [a1, a2]
  · refine nothing (a := nM 1) C D ?_ ?_
    · show q_X_feed sc h a b c d e = _
      rw [q_X_feed_eq, q_Tape_hasRoomFor_eq]
      simp (disch := omega) only [L_0, L_1, L_2, L_3, L_4, L_5, L_6, L_7, L_8, L_9, L_10, L_11, L_12, L_13, L_14, L_15, L_16, L_17, L_18, L_19, L_20, L_21, L_22, L_23, L_24, L_25, L_26, L_27, L_28, L_29, L_30, L_31, L_32, L_33, L_34, L_35, L_40, L_41, L_42, L_43, L_44, L_45, L_47, L_48, L_50, L_53, L_57, L_59, L_60, L_61, L_63, L_64, L_97, L_100, L_101, L_102, L_103, L_122, L_130, L_216, L_255, L_364, L_400, L_402, L_420, L_728, L_768, L_999, L_1000, L_1093, L_1872, L_2000, L_9999, L_12345, L_252645135, L_858993459, L_1103515245, L_1431655765, Lm_1, Lm_2, Lm_8, N_zero, N_cast, N_add, N_mul, N_sub, N_addM, N_lt_tp, N_lt_fp, N_le_tp, N_le_fp, N_eq_tp, N_eq_fp, MN_ltp, MN_lep, NM_ltp, NM_lep, NM_eqp, MN_eqp, MM_lt_tp, MM_lt_fp, MM_le_tp, MM_le_fp, MM_eq_tp, MM_eq_fp, N_cl, N_in_t, N_in_f, M_in, N_div, N_rem, N_nb0, N_nb1, cond_true, cond_false, Bool.not_true, Bool.not_false, Bool.and_true, Bool.true_and, Bool.and_false, Bool.false_and, decide_true, decide_false, Option.bind_some, Option.bind_none, t2]
    · show q_M_feed sc h a b c d e = _
      rw [q_M_feed_eq]
      simp (disch := omega) only [L_0, L_1, L_2, L_3, L_4, L_5, L_6, L_7, L_8, L_9, L_10, L_11, L_12, L_13, L_14, L_15, L_16, L_17, L_18, L_19, L_20, L_21, L_22, L_23, L_24, L_25, L_26, L_27, L_28, L_29, L_30, L_31, L_32, L_33, L_34, L_35, L_40, L_41, L_42, L_43, L_44, L_45, L_47, L_48, L_50, L_53, L_57, L_59, L_60, L_61, L_63, L_64, L_97, L_100, L_101, L_102, L_103, L_122, L_130, L_216, L_255, L_364, L_400, L_402, L_420, L_728, L_768, L_999, L_1000, L_1093, L_1872, L_2000, L_9999, L_12345, L_252645135, L_858993459, L_1103515245, L_1431655765, Lm_1, Lm_2, Lm_8, N_zero, N_cast, N_add, N_mul, N_sub, N_addM, N_lt_tp, N_lt_fp, N_le_tp, N_le_fp, N_eq_tp, N_eq_fp, MN_ltp, MN_lep, NM_ltp, NM_lep, NM_eqp, MN_eqp, MM_lt_tp, MM_lt_fp, MM_le_tp, MM_le_fp, MM_eq_tp, MM_eq_fp, N_cl, N_in_t, N_in_f, M_in, N_div, N_rem, N_nb0, N_nb1, cond_true, cond_false, Bool.not_true, Bool.not_false, Bool.and_true, Bool.true_and, Bool.and_false, Bool.false_and, decide_true, decide_false, Option.bind_some, Option.bind_none, t3]
theorem c_back {h : wb_H} (I : Inv h B) (a : Int32) : Same (fun h => q_X_back sc h a) (fun h => q_M_back sc h a) h B := by
  obtain ⟨T, R, v, q, s, C, D⟩ := I
  obtain ⟨t, t1, t2, t3, t4⟩ := C.2.2.2.2.2.2.2.2.2.2.2.1
  by_cases ha : hsP (t + 1) a
  · obtain ⟨n, hn, rfl⟩ := ha
    refine ⟨(nN (t - n), wb_iu h 18 0 1 (nN (t - n))), ?_, ?_⟩
    · show q_X_back sc h (nN n) = _
      rw [q_X_back_eq]
      simp (disch := omega) only [L_0, L_1, L_2, L_3, L_4, L_5, L_6, L_7, L_8, L_9, L_10, L_11, L_12, L_13, L_14, L_15, L_16, L_17, L_18, L_19, L_20, L_21, L_22, L_23, L_24, L_25, L_26, L_27, L_28, L_29, L_30, L_31, L_32, L_33, L_34, L_35, L_40, L_41, L_42, L_43, L_44, L_45, L_47, L_48, L_50, L_53, L_57, L_59, L_60, L_61, L_63, L_64, L_97, L_100, L_101, L_102, L_103, L_122, L_130, L_216, L_255, L_364, L_400, L_402, L_420, L_728, L_768, L_999, L_1000, L_1093, L_1872, L_2000, L_9999, L_12345, L_252645135, L_858993459, L_1103515245, L_1431655765, Lm_1, Lm_2, Lm_8, N_zero, N_cast, N_add, N_mul, N_sub, N_addM, N_lt_tp, N_lt_fp, N_le_tp, N_le_fp, N_eq_tp, N_eq_fp, MN_ltp, MN_lep, NM_ltp, NM_lep, NM_eqp, MN_eqp, MM_lt_tp, MM_lt_fp, MM_le_tp, MM_le_fp, MM_eq_tp, MM_eq_fp, N_cl, N_in_t, N_in_f, M_in, N_div, N_rem, N_nb0, N_nb1, cond_true, cond_false, Bool.not_true, Bool.not_false, Bool.and_true, Bool.true_and, Bool.and_false, Bool.false_and, decide_true, decide_false, Option.bind_some, Option.bind_none, t2, iu_at]
    · show Ok (q_M_back sc (wb_iu h 18 0 1 (nN (t - n))) (nN n)) _
      rw [q_M_back_eq]
      simp (disch := omega) only [L_0, L_1, L_2, L_3, L_4, L_5, L_6, L_7, L_8, L_9, L_10, L_11, L_12, L_13, L_14, L_15, L_16, L_17, L_18, L_19, L_20, L_21, L_22, L_23, L_24, L_25, L_26, L_27, L_28, L_29, L_30, L_31, L_32, L_33, L_34, L_35, L_40, L_41, L_42, L_43, L_44, L_45, L_47, L_48, L_50, L_53, L_57, L_59, L_60, L_61, L_63, L_64, L_97, L_100, L_101, L_102, L_103, L_122, L_130, L_216, L_255, L_364, L_400, L_402, L_420, L_728, L_768, L_999, L_1000, L_1093, L_1872, L_2000, L_9999, L_12345, L_252645135, L_858993459, L_1103515245, L_1431655765, Lm_1, Lm_2, Lm_8, N_zero, N_cast, N_add, N_mul, N_sub, N_addM, N_lt_tp, N_lt_fp, N_le_tp, N_le_fp, N_eq_tp, N_eq_fp, MN_ltp, MN_lep, NM_ltp, NM_lep, NM_eqp, MN_eqp, MM_lt_tp, MM_lt_fp, MM_le_tp, MM_le_fp, MM_eq_tp, MM_eq_fp, N_cl, N_in_t, N_in_f, M_in, N_div, N_rem, N_nb0, N_nb1, cond_true, cond_false, Bool.not_true, Bool.not_false, Bool.and_true, Bool.true_and, Bool.and_false, Bool.false_and, decide_true, decide_false, Option.bind_some, Option.bind_none, iu_nt (show 21 ≠ 18 by decide), t3, iu_at]
      have FF : Fr [5001, 1002] h (wb_iu (wb_iu h 18 0 1 (nN (t - n))) 21 0 2 (nN (t - n))) := Fr_trans (Fr_iu rfl) (Fr_iu rfl)
      refine Ok_some ⟨rfl, T, R, v, q, s, Core_gen C FF rfl rfl rfl rfl (Diary_f2 FF rfl C.2.2.2.2.2.2.2.2.2.2.1) ?_ (Keys_f2 FF rfl C.2.2.2.2.2.2.2.2.2.2.2.2), Cache_fr FF rfl rfl rfl D⟩
      refine ⟨t - n, by omega, ?_, iu_at, fun j hj => ?_⟩
      · rw [iu_nt (by decide), iu_at]
      · rw [iu_nt (by decide), iu_nt (by decide), iu_nt (by decide), iu_nt (by decide)]; exact t4 j (by omega)
  · refine nothing (a := nM 1) C D ?_ ?_
    · show q_X_back sc h a = _
      rw [q_X_back_eq]
      rcases NM_all a with ⟨k, rfl, hk⟩ | ⟨k, rfl, hk1, hk2⟩
      · have : ¬ k < t + 1 := fun y => ha ⟨k, y, rfl⟩
        simp (disch := omega) only [L_0, L_1, L_2, L_3, L_4, L_5, L_6, L_7, L_8, L_9, L_10, L_11, L_12, L_13, L_14, L_15, L_16, L_17, L_18, L_19, L_20, L_21, L_22, L_23, L_24, L_25, L_26, L_27, L_28, L_29, L_30, L_31, L_32, L_33, L_34, L_35, L_40, L_41, L_42, L_43, L_44, L_45, L_47, L_48, L_50, L_53, L_57, L_59, L_60, L_61, L_63, L_64, L_97, L_100, L_101, L_102, L_103, L_122, L_130, L_216, L_255, L_364, L_400, L_402, L_420, L_728, L_768, L_999, L_1000, L_1093, L_1872, L_2000, L_9999, L_12345, L_252645135, L_858993459, L_1103515245, L_1431655765, Lm_1, Lm_2, Lm_8, N_zero, N_cast, N_add, N_mul, N_sub, N_addM, N_lt_tp, N_lt_fp, N_le_tp, N_le_fp, N_eq_tp, N_eq_fp, MN_ltp, MN_lep, NM_ltp, NM_lep, NM_eqp, MN_eqp, MM_lt_tp, MM_lt_fp, MM_le_tp, MM_le_fp, MM_eq_tp, MM_eq_fp, N_cl, N_in_t, N_in_f, M_in, N_div, N_rem, N_nb0, N_nb1, cond_true, cond_false, Bool.not_true, Bool.not_false, Bool.and_true, Bool.true_and, Bool.and_false, Bool.false_and, decide_true, decide_false, Option.bind_some, Option.bind_none, t2]
      · simp (disch := omega) only [L_0, L_1, L_2, L_3, L_4, L_5, L_6, L_7, L_8, L_9, L_10, L_11, L_12, L_13, L_14, L_15, L_16, L_17, L_18, L_19, L_20, L_21, L_22, L_23, L_24, L_25, L_26, L_27, L_28, L_29, L_30, L_31, L_32, L_33, L_34, L_35, L_40, L_41, L_42, L_43, L_44, L_45, L_47, L_48, L_50, L_53, L_57, L_59, L_60, L_61, L_63, L_64, L_97, L_100, L_101, L_102, L_103, L_122, L_130, L_216, L_255, L_364, L_400, L_402, L_420, L_728, L_768, L_999, L_1000, L_1093, L_1872, L_2000, L_9999, L_12345, L_252645135, L_858993459, L_1103515245, L_1431655765, Lm_1, Lm_2, Lm_8, N_zero, N_cast, N_add, N_mul, N_sub, N_addM, N_lt_tp, N_lt_fp, N_le_tp, N_le_fp, N_eq_tp, N_eq_fp, MN_ltp, MN_lep, NM_ltp, NM_lep, NM_eqp, MN_eqp, MM_lt_tp, MM_lt_fp, MM_le_tp, MM_le_fp, MM_eq_tp, MM_eq_fp, N_cl, N_in_t, N_in_f, M_in, N_div, N_rem, N_nb0, N_nb1, cond_true, cond_false, Bool.not_true, Bool.not_false, Bool.and_true, Bool.true_and, Bool.and_false, Bool.false_and, decide_true, decide_false, Option.bind_some, Option.bind_none]
    · show q_M_back sc h a = _
      rw [q_M_back_eq]
      rcases NM_all a with ⟨k, rfl, hk⟩ | ⟨k, rfl, hk1, hk2⟩
      · have : ¬ k < t + 1 := fun y => ha ⟨k, y, rfl⟩
        simp (disch := omega) only [L_0, L_1, L_2, L_3, L_4, L_5, L_6, L_7, L_8, L_9, L_10, L_11, L_12, L_13, L_14, L_15, L_16, L_17, L_18, L_19, L_20, L_21, L_22, L_23, L_24, L_25, L_26, L_27, L_28, L_29, L_30, L_31, L_32, L_33, L_34, L_35, L_40, L_41, L_42, L_43, L_44, L_45, L_47, L_48, L_50, L_53, L_57, L_59, L_60, L_61, L_63, L_64, L_97, L_100, L_101, L_102, L_103, L_122, L_130, L_216, L_255, L_364, L_400, L_402, L_420, L_728, L_768, L_999, L_1000, L_1093, L_1872, L_2000, L_9999, L_12345, L_252645135, L_858993459, L_1103515245, L_1431655765, Lm_1, Lm_2, Lm_8, N_zero, N_cast, N_add, N_mul, N_sub, N_addM, N_lt_tp, N_lt_fp, N_le_tp, N_le_fp, N_eq_tp, N_eq_fp, MN_ltp, MN_lep, NM_ltp, NM_lep, NM_eqp, MN_eqp, MM_lt_tp, MM_lt_fp, MM_le_tp, MM_le_fp, MM_eq_tp, MM_eq_fp, N_cl, N_in_t, N_in_f, M_in, N_div, N_rem, N_nb0, N_nb1, cond_true, cond_false, Bool.not_true, Bool.not_false, Bool.and_true, Bool.true_and, Bool.and_false, Bool.false_and, decide_true, decide_false, Option.bind_some, Option.bind_none, t3]
      · simp (disch := omega) only [L_0, L_1, L_2, L_3, L_4, L_5, L_6, L_7, L_8, L_9, L_10, L_11, L_12, L_13, L_14, L_15, L_16, L_17, L_18, L_19, L_20, L_21, L_22, L_23, L_24, L_25, L_26, L_27, L_28, L_29, L_30, L_31, L_32, L_33, L_34, L_35, L_40, L_41, L_42, L_43, L_44, L_45, L_47, L_48, L_50, L_53, L_57, L_59, L_60, L_61, L_63, L_64, L_97, L_100, L_101, L_102, L_103, L_122, L_130, L_216, L_255, L_364, L_400, L_402, L_420, L_728, L_768, L_999, L_1000, L_1093, L_1872, L_2000, L_9999, L_12345, L_252645135, L_858993459, L_1103515245, L_1431655765, Lm_1, Lm_2, Lm_8, N_zero, N_cast, N_add, N_mul, N_sub, N_addM, N_lt_tp, N_lt_fp, N_le_tp, N_le_fp, N_eq_tp, N_eq_fp, MN_ltp, MN_lep, NM_ltp, NM_lep, NM_eqp, MN_eqp, MM_lt_tp, MM_lt_fp, MM_le_tp, MM_le_fp, MM_eq_tp, MM_eq_fp, N_cl, N_in_t, N_in_f, M_in, N_div, N_rem, N_nb0, N_nb1, cond_true, cond_false, Bool.not_true, Bool.not_false, Bool.and_true, Bool.true_and, Bool.and_false, Bool.false_and, decide_true, decide_false, Option.bind_some, Option.bind_none]
theorem c_forget {h : wb_H} (I : Inv h B) : Same (fun h => q_X_forget sc h) (fun h => q_M_forget sc h) h B := by
  obtain ⟨T, R, v, q, s, C, D⟩ := I
  obtain ⟨k, k1, k2, k3, k4⟩ := C.2.2.2.2.2.2.2.2.2.2.1
  refine ⟨(nN k, wb_iu h 10 0 5 (nN 0)), ?_, ?_⟩
  · show q_X_forget sc h = _
    rw [q_X_forget_eq, q_Diary_clear_eq]
    simp only [L_0, L_1, L_2, L_3, L_4, L_5, L_6, L_7, L_8, L_9, L_10, L_11, L_12, L_13, L_14, L_15, L_16, L_17, L_18, L_19, L_20, L_21, L_22, L_23, L_24, L_25, L_26, L_27, L_28, L_29, L_30, L_31, L_32, L_33, L_34, L_35, L_40, L_41, L_42, L_43, L_44, L_45, L_47, L_48, L_50, L_53, L_57, L_59, L_60, L_61, L_63, L_64, L_97, L_100, L_101, L_102, L_103, L_122, L_130, L_216, L_255, L_364, L_400, L_402, L_420, L_728, L_768, L_999, L_1000, L_1093, L_1872, L_2000, L_9999, L_12345, L_252645135, L_858993459, L_1103515245, L_1431655765, Lm_1, Lm_2, Lm_8, Option.bind_some, k2]
  · show Ok (q_M_forget sc (wb_iu h 10 0 5 (nN 0))) _
    rw [q_M_forget_eq]
    have FF : Fr [7005, 1059] h (wb_iu (wb_iu h 10 0 5 (nN 0)) 21 0 59 (nN 0)) := Fr_trans (Fr_iu rfl) (Fr_iu rfl)
    simp only [L_0, L_1, L_2, L_3, L_4, L_5, L_6, L_7, L_8, L_9, L_10, L_11, L_12, L_13, L_14, L_15, L_16, L_17, L_18, L_19, L_20, L_21, L_22, L_23, L_24, L_25, L_26, L_27, L_28, L_29, L_30, L_31, L_32, L_33, L_34, L_35, L_40, L_41, L_42, L_43, L_44, L_45, L_47, L_48, L_50, L_53, L_57, L_59, L_60, L_61, L_63, L_64, L_97, L_100, L_101, L_102, L_103, L_122, L_130, L_216, L_255, L_364, L_400, L_402, L_420, L_728, L_768, L_999, L_1000, L_1093, L_1872, L_2000, L_9999, L_12345, L_252645135, L_858993459, L_1103515245, L_1431655765, Lm_1, Lm_2, Lm_8]
    refine Ok_some ⟨?_, T, R, v, q, s, Core_gen C FF rfl rfl rfl rfl ⟨0, by decide, ?_, iu_at, fun j hj => absurd hj (Nat.not_lt_zero _)⟩ (Tape_f2 FF rfl C.2.2.2.2.2.2.2.2.2.2.2.1) (Keys_f2 FF rfl C.2.2.2.2.2.2.2.2.2.2.2.2), Cache_fr FF rfl rfl rfl D⟩
    · show (wb_iu h 10 0 5 (nN 0)).1 21 0 59 = nN k
      rw [iu_nt (by decide)]; exact k3
    · rw [iu_nt (by decide), iu_at]
theorem X_isSeen_t {h : wb_H} {b : Nat} (hb : b ≤ 6) : q_X_isSeen sc h (nN b) = some (nN 1, h) := by
  rw [q_X_isSeen_eq]
  simp (disch := omega) only [L_0, L_1, L_2, L_3, L_4, L_5, L_6, L_7, L_8, L_9, L_10, L_11, L_12, L_13, L_14, L_15, L_16, L_17, L_18, L_19, L_20, L_21, L_22, L_23, L_24, L_25, L_26, L_27, L_28, L_29, L_30, L_31, L_32, L_33, L_34, L_35, L_40, L_41, L_42, L_43, L_44, L_45, L_47, L_48, L_50, L_53, L_57, L_59, L_60, L_61, L_63, L_64, L_97, L_100, L_101, L_102, L_103, L_122, L_130, L_216, L_255, L_364, L_400, L_402, L_420, L_728, L_768, L_999, L_1000, L_1093, L_1872, L_2000, L_9999, L_12345, L_252645135, L_858993459, L_1103515245, L_1431655765, Lm_1, Lm_2, Lm_8, N_zero, N_cast, N_add, N_mul, N_sub, N_addM, N_lt_tp, N_lt_fp, N_le_tp, N_le_fp, N_eq_tp, N_eq_fp, MN_ltp, MN_lep, NM_ltp, NM_lep, NM_eqp, MN_eqp, MM_lt_tp, MM_lt_fp, MM_le_tp, MM_le_fp, MM_eq_tp, MM_eq_fp, N_cl, N_in_t, N_in_f, M_in, N_div, N_rem, N_nb0, N_nb1, cond_true, cond_false, Bool.not_true, Bool.not_false, Bool.and_true, Bool.true_and, Bool.and_false, Bool.false_and, decide_true, decide_false, Option.bind_some, Option.bind_none]
theorem X_isSeen_f {h : wb_H} {a : Int32} (ha : ¬ hsP (6 + 1) a) : q_X_isSeen sc h a = some (nN 0, h) := by
  rw [q_X_isSeen_eq]
  rcases NM_all a with ⟨k, rfl, hk⟩ | ⟨k, rfl, hk1, hk2⟩
  · have : ¬ k < 6 + 1 := fun t => ha ⟨k, t, rfl⟩
    simp (disch := omega) only [L_0, L_1, L_2, L_3, L_4, L_5, L_6, L_7, L_8, L_9, L_10, L_11, L_12, L_13, L_14, L_15, L_16, L_17, L_18, L_19, L_20, L_21, L_22, L_23, L_24, L_25, L_26, L_27, L_28, L_29, L_30, L_31, L_32, L_33, L_34, L_35, L_40, L_41, L_42, L_43, L_44, L_45, L_47, L_48, L_50, L_53, L_57, L_59, L_60, L_61, L_63, L_64, L_97, L_100, L_101, L_102, L_103, L_122, L_130, L_216, L_255, L_364, L_400, L_402, L_420, L_728, L_768, L_999, L_1000, L_1093, L_1872, L_2000, L_9999, L_12345, L_252645135, L_858993459, L_1103515245, L_1431655765, Lm_1, Lm_2, Lm_8, N_zero, N_cast, N_add, N_mul, N_sub, N_addM, N_lt_tp, N_lt_fp, N_le_tp, N_le_fp, N_eq_tp, N_eq_fp, MN_ltp, MN_lep, NM_ltp, NM_lep, NM_eqp, MN_eqp, MM_lt_tp, MM_lt_fp, MM_le_tp, MM_le_fp, MM_eq_tp, MM_eq_fp, N_cl, N_in_t, N_in_f, M_in, N_div, N_rem, N_nb0, N_nb1, cond_true, cond_false, Bool.not_true, Bool.not_false, Bool.and_true, Bool.true_and, Bool.and_false, Bool.false_and, decide_true, decide_false, Option.bind_some, Option.bind_none]
  · simp (disch := omega) only [L_0, L_1, L_2, L_3, L_4, L_5, L_6, L_7, L_8, L_9, L_10, L_11, L_12, L_13, L_14, L_15, L_16, L_17, L_18, L_19, L_20, L_21, L_22, L_23, L_24, L_25, L_26, L_27, L_28, L_29, L_30, L_31, L_32, L_33, L_34, L_35, L_40, L_41, L_42, L_43, L_44, L_45, L_47, L_48, L_50, L_53, L_57, L_59, L_60, L_61, L_63, L_64, L_97, L_100, L_101, L_102, L_103, L_122, L_130, L_216, L_255, L_364, L_400, L_402, L_420, L_728, L_768, L_999, L_1000, L_1093, L_1872, L_2000, L_9999, L_12345, L_252645135, L_858993459, L_1103515245, L_1431655765, Lm_1, Lm_2, Lm_8, N_zero, N_cast, N_add, N_mul, N_sub, N_addM, N_lt_tp, N_lt_fp, N_le_tp, N_le_fp, N_eq_tp, N_eq_fp, MN_ltp, MN_lep, NM_ltp, NM_lep, NM_eqp, MN_eqp, MM_lt_tp, MM_lt_fp, MM_le_tp, MM_le_fp, MM_eq_tp, MM_eq_fp, N_cl, N_in_t, N_in_f, M_in, N_div, N_rem, N_nb0, N_nb1, cond_true, cond_false, Bool.not_true, Bool.not_false, Bool.and_true, Bool.true_and, Bool.and_false, Bool.false_and, decide_true, decide_false, Option.bind_some, Option.bind_none]
theorem c_tell {h : wb_H} (I : Inv h B) (a b u : Int32) {sg ld br : Nat} (hsg : sg ≤ 1) (hld : ld ≤ 1) (hbr : br ≤ 1) : Same (fun h => q_X_tell sc h a (nN sg) b u (nN ld) (nN br)) (fun h => q_M_tell sc h a (nN sg) b u (nN ld) (nN br)) h B := by
  obtain ⟨T, R, v, q, s, C, D⟩ := I
  obtain ⟨k, k1, k2, k3, k4⟩ := C.2.2.2.2.2.2.2.2.2.2.1
  have mbad : ∀ x, (k = 20 ∨ ¬ hsP (tn T) a ∨ ¬ hsP (6 + 1) b ∨ ¬ hsP (6 + 1) u) → x = nM 1 → q_M_tell sc h a (nN sg) b u (nN ld) (nN br) = some (x, h) := by
    intro x hx e
    subst e
    rw [q_M_tell_eq]
    by_cases z : k = 20
    · simp (disch := omega) only [L_0, L_1, L_2, L_3, L_4, L_5, L_6, L_7, L_8, L_9, L_10, L_11, L_12, L_13, L_14, L_15, L_16, L_17, L_18, L_19, L_20, L_21, L_22, L_23, L_24, L_25, L_26, L_27, L_28, L_29, L_30, L_31, L_32, L_33, L_34, L_35, L_40, L_41, L_42, L_43, L_44, L_45, L_47, L_48, L_50, L_53, L_57, L_59, L_60, L_61, L_63, L_64, L_97, L_100, L_101, L_102, L_103, L_122, L_130, L_216, L_255, L_364, L_400, L_402, L_420, L_728, L_768, L_999, L_1000, L_1093, L_1872, L_2000, L_9999, L_12345, L_252645135, L_858993459, L_1103515245, L_1431655765, Lm_1, Lm_2, Lm_8, N_zero, N_cast, N_add, N_mul, N_sub, N_addM, N_lt_tp, N_lt_fp, N_le_tp, N_le_fp, N_eq_tp, N_eq_fp, MN_ltp, MN_lep, NM_ltp, NM_lep, NM_eqp, MN_eqp, MM_lt_tp, MM_lt_fp, MM_le_tp, MM_le_fp, MM_eq_tp, MM_eq_fp, N_cl, N_in_t, N_in_f, M_in, N_div, N_rem, N_nb0, N_nb1, cond_true, cond_false, Bool.not_true, Bool.not_false, Bool.and_true, Bool.true_and, Bool.and_false, Bool.false_and, decide_true, decide_false, Option.bind_some, Option.bind_none, k3]
    · simp (disch := omega) only [L_0, L_1, L_2, L_3, L_4, L_5, L_6, L_7, L_8, L_9, L_10, L_11, L_12, L_13, L_14, L_15, L_16, L_17, L_18, L_19, L_20, L_21, L_22, L_23, L_24, L_25, L_26, L_27, L_28, L_29, L_30, L_31, L_32, L_33, L_34, L_35, L_40, L_41, L_42, L_43, L_44, L_45, L_47, L_48, L_50, L_53, L_57, L_59, L_60, L_61, L_63, L_64, L_97, L_100, L_101, L_102, L_103, L_122, L_130, L_216, L_255, L_364, L_400, L_402, L_420, L_728, L_768, L_999, L_1000, L_1093, L_1872, L_2000, L_9999, L_12345, L_252645135, L_858993459, L_1103515245, L_1431655765, Lm_1, Lm_2, Lm_8, N_zero, N_cast, N_add, N_mul, N_sub, N_addM, N_lt_tp, N_lt_fp, N_le_tp, N_le_fp, N_eq_tp, N_eq_fp, MN_ltp, MN_lep, NM_ltp, NM_lep, NM_eqp, MN_eqp, MM_lt_tp, MM_lt_fp, MM_le_tp, MM_le_fp, MM_eq_tp, MM_eq_fp, N_cl, N_in_t, N_in_f, M_in, N_div, N_rem, N_nb0, N_nb1, cond_true, cond_false, Bool.not_true, Bool.not_false, Bool.and_true, Bool.true_and, Bool.and_false, Bool.false_and, decide_true, decide_false, Option.bind_some, Option.bind_none, k3]
      by_cases ha : hsP (tn T) a
      · obtain ⟨i, hi, rfl⟩ := ha
        rw [M_isHouse_t C hi]
        simp (disch := omega) only [L_0, L_1, L_2, L_3, L_4, L_5, L_6, L_7, L_8, L_9, L_10, L_11, L_12, L_13, L_14, L_15, L_16, L_17, L_18, L_19, L_20, L_21, L_22, L_23, L_24, L_25, L_26, L_27, L_28, L_29, L_30, L_31, L_32, L_33, L_34, L_35, L_40, L_41, L_42, L_43, L_44, L_45, L_47, L_48, L_50, L_53, L_57, L_59, L_60, L_61, L_63, L_64, L_97, L_100, L_101, L_102, L_103, L_122, L_130, L_216, L_255, L_364, L_400, L_402, L_420, L_728, L_768, L_999, L_1000, L_1093, L_1872, L_2000, L_9999, L_12345, L_252645135, L_858993459, L_1103515245, L_1431655765, Lm_1, Lm_2, Lm_8, N_zero, N_cast, N_add, N_mul, N_sub, N_addM, N_lt_tp, N_lt_fp, N_le_tp, N_le_fp, N_eq_tp, N_eq_fp, MN_ltp, MN_lep, NM_ltp, NM_lep, NM_eqp, MN_eqp, MM_lt_tp, MM_lt_fp, MM_le_tp, MM_le_fp, MM_eq_tp, MM_eq_fp, N_cl, N_in_t, N_in_f, M_in, N_div, N_rem, N_nb0, N_nb1, cond_true, cond_false, Bool.not_true, Bool.not_false, Bool.and_true, Bool.true_and, Bool.and_false, Bool.false_and, decide_true, decide_false, Option.bind_some, Option.bind_none]
        by_cases hb : hsP (6 + 1) b
        · obtain ⟨i2, hi2, rfl⟩ := hb
          rw [M_in_t (by omega) (by decide)]
          simp (disch := omega) only [L_0, L_1, L_2, L_3, L_4, L_5, L_6, L_7, L_8, L_9, L_10, L_11, L_12, L_13, L_14, L_15, L_16, L_17, L_18, L_19, L_20, L_21, L_22, L_23, L_24, L_25, L_26, L_27, L_28, L_29, L_30, L_31, L_32, L_33, L_34, L_35, L_40, L_41, L_42, L_43, L_44, L_45, L_47, L_48, L_50, L_53, L_57, L_59, L_60, L_61, L_63, L_64, L_97, L_100, L_101, L_102, L_103, L_122, L_130, L_216, L_255, L_364, L_400, L_402, L_420, L_728, L_768, L_999, L_1000, L_1093, L_1872, L_2000, L_9999, L_12345, L_252645135, L_858993459, L_1103515245, L_1431655765, Lm_1, Lm_2, Lm_8, N_zero, N_cast, N_add, N_mul, N_sub, N_addM, N_lt_tp, N_lt_fp, N_le_tp, N_le_fp, N_eq_tp, N_eq_fp, MN_ltp, MN_lep, NM_ltp, NM_lep, NM_eqp, MN_eqp, MM_lt_tp, MM_lt_fp, MM_le_tp, MM_le_fp, MM_eq_tp, MM_eq_fp, N_cl, N_in_t, N_in_f, M_in, N_div, N_rem, N_nb0, N_nb1, cond_true, cond_false, Bool.not_true, Bool.not_false, Bool.and_true, Bool.true_and, Bool.and_false, Bool.false_and, decide_true, decide_false, Option.bind_some, Option.bind_none]
          have hu : ¬ hsP (6 + 1) u := by
            rcases hx with hx | hx | hx | hx
            · exact absurd hx z
            · exact absurd ⟨i, hi, rfl⟩ hx
            · exact absurd ⟨i2, hi2, rfl⟩ hx
            · exact hx
          rw [M_in_f (by decide) hu]
          simp (disch := omega) only [L_0, L_1, L_2, L_3, L_4, L_5, L_6, L_7, L_8, L_9, L_10, L_11, L_12, L_13, L_14, L_15, L_16, L_17, L_18, L_19, L_20, L_21, L_22, L_23, L_24, L_25, L_26, L_27, L_28, L_29, L_30, L_31, L_32, L_33, L_34, L_35, L_40, L_41, L_42, L_43, L_44, L_45, L_47, L_48, L_50, L_53, L_57, L_59, L_60, L_61, L_63, L_64, L_97, L_100, L_101, L_102, L_103, L_122, L_130, L_216, L_255, L_364, L_400, L_402, L_420, L_728, L_768, L_999, L_1000, L_1093, L_1872, L_2000, L_9999, L_12345, L_252645135, L_858993459, L_1103515245, L_1431655765, Lm_1, Lm_2, Lm_8, N_zero, N_cast, N_add, N_mul, N_sub, N_addM, N_lt_tp, N_lt_fp, N_le_tp, N_le_fp, N_eq_tp, N_eq_fp, MN_ltp, MN_lep, NM_ltp, NM_lep, NM_eqp, MN_eqp, MM_lt_tp, MM_lt_fp, MM_le_tp, MM_le_fp, MM_eq_tp, MM_eq_fp, N_cl, N_in_t, N_in_f, M_in, N_div, N_rem, N_nb0, N_nb1, cond_true, cond_false, Bool.not_true, Bool.not_false, Bool.and_true, Bool.true_and, Bool.and_false, Bool.false_and, decide_true, decide_false, Option.bind_some, Option.bind_none]
        · rw [M_in_f (by decide) hb]
          simp (disch := omega) only [L_0, L_1, L_2, L_3, L_4, L_5, L_6, L_7, L_8, L_9, L_10, L_11, L_12, L_13, L_14, L_15, L_16, L_17, L_18, L_19, L_20, L_21, L_22, L_23, L_24, L_25, L_26, L_27, L_28, L_29, L_30, L_31, L_32, L_33, L_34, L_35, L_40, L_41, L_42, L_43, L_44, L_45, L_47, L_48, L_50, L_53, L_57, L_59, L_60, L_61, L_63, L_64, L_97, L_100, L_101, L_102, L_103, L_122, L_130, L_216, L_255, L_364, L_400, L_402, L_420, L_728, L_768, L_999, L_1000, L_1093, L_1872, L_2000, L_9999, L_12345, L_252645135, L_858993459, L_1103515245, L_1431655765, Lm_1, Lm_2, Lm_8, N_zero, N_cast, N_add, N_mul, N_sub, N_addM, N_lt_tp, N_lt_fp, N_le_tp, N_le_fp, N_eq_tp, N_eq_fp, MN_ltp, MN_lep, NM_ltp, NM_lep, NM_eqp, MN_eqp, MM_lt_tp, MM_lt_fp, MM_le_tp, MM_le_fp, MM_eq_tp, MM_eq_fp, N_cl, N_in_t, N_in_f, M_in, N_div, N_rem, N_nb0, N_nb1, cond_true, cond_false, Bool.not_true, Bool.not_false, Bool.and_true, Bool.true_and, Bool.and_false, Bool.false_and, decide_true, decide_false, Option.bind_some, Option.bind_none]
      · rw [M_isHouse_f C ha]
        simp (disch := omega) only [L_0, L_1, L_2, L_3, L_4, L_5, L_6, L_7, L_8, L_9, L_10, L_11, L_12, L_13, L_14, L_15, L_16, L_17, L_18, L_19, L_20, L_21, L_22, L_23, L_24, L_25, L_26, L_27, L_28, L_29, L_30, L_31, L_32, L_33, L_34, L_35, L_40, L_41, L_42, L_43, L_44, L_45, L_47, L_48, L_50, L_53, L_57, L_59, L_60, L_61, L_63, L_64, L_97, L_100, L_101, L_102, L_103, L_122, L_130, L_216, L_255, L_364, L_400, L_402, L_420, L_728, L_768, L_999, L_1000, L_1093, L_1872, L_2000, L_9999, L_12345, L_252645135, L_858993459, L_1103515245, L_1431655765, Lm_1, Lm_2, Lm_8, N_zero, N_cast, N_add, N_mul, N_sub, N_addM, N_lt_tp, N_lt_fp, N_le_tp, N_le_fp, N_eq_tp, N_eq_fp, MN_ltp, MN_lep, NM_ltp, NM_lep, NM_eqp, MN_eqp, MM_lt_tp, MM_lt_fp, MM_le_tp, MM_le_fp, MM_eq_tp, MM_eq_fp, N_cl, N_in_t, N_in_f, M_in, N_div, N_rem, N_nb0, N_nb1, cond_true, cond_false, Bool.not_true, Bool.not_false, Bool.and_true, Bool.true_and, Bool.and_false, Bool.false_and, decide_true, decide_false, Option.bind_some, Option.bind_none]
  by_cases ha : hsP (tn T) a
  · obtain ⟨i, hi, rfl⟩ := ha
    by_cases hb : hsP (6 + 1) b
    · obtain ⟨bb, hbb, rfl⟩ := hb
      by_cases hu : hsP (6 + 1) u
      · obtain ⟨uu, huu, rfl⟩ := hu
        by_cases z : k = 20
        · refine nothing (a := nM 1) C D ?_ (mbad _ (Or.inl z) rfl)
          show q_X_tell sc h (nN i) (nN sg) (nN bb) (nN uu) (nN ld) (nN br) = _
          rw [q_X_tell_eq, X_isHouse_t C hi]
          simp (disch := omega) only [L_0, L_1, L_2, L_3, L_4, L_5, L_6, L_7, L_8, L_9, L_10, L_11, L_12, L_13, L_14, L_15, L_16, L_17, L_18, L_19, L_20, L_21, L_22, L_23, L_24, L_25, L_26, L_27, L_28, L_29, L_30, L_31, L_32, L_33, L_34, L_35, L_40, L_41, L_42, L_43, L_44, L_45, L_47, L_48, L_50, L_53, L_57, L_59, L_60, L_61, L_63, L_64, L_97, L_100, L_101, L_102, L_103, L_122, L_130, L_216, L_255, L_364, L_400, L_402, L_420, L_728, L_768, L_999, L_1000, L_1093, L_1872, L_2000, L_9999, L_12345, L_252645135, L_858993459, L_1103515245, L_1431655765, Lm_1, Lm_2, Lm_8, N_zero, N_cast, N_add, N_mul, N_sub, N_addM, N_lt_tp, N_lt_fp, N_le_tp, N_le_fp, N_eq_tp, N_eq_fp, MN_ltp, MN_lep, NM_ltp, NM_lep, NM_eqp, MN_eqp, MM_lt_tp, MM_lt_fp, MM_le_tp, MM_le_fp, MM_eq_tp, MM_eq_fp, N_cl, N_in_t, N_in_f, M_in, N_div, N_rem, N_nb0, N_nb1, cond_true, cond_false, Bool.not_true, Bool.not_false, Bool.and_true, Bool.true_and, Bool.and_false, Bool.false_and, decide_true, decide_false, Option.bind_some, Option.bind_none, X_isSeen_t (sc := sc) (h := h) (show bb ≤ 6 by omega), X_isSeen_t (sc := sc) (h := h) (show uu ≤ 6 by omega)]
          rw [q_Diary_add_eq]
          simp (disch := omega) only [L_0, L_1, L_2, L_3, L_4, L_5, L_6, L_7, L_8, L_9, L_10, L_11, L_12, L_13, L_14, L_15, L_16, L_17, L_18, L_19, L_20, L_21, L_22, L_23, L_24, L_25, L_26, L_27, L_28, L_29, L_30, L_31, L_32, L_33, L_34, L_35, L_40, L_41, L_42, L_43, L_44, L_45, L_47, L_48, L_50, L_53, L_57, L_59, L_60, L_61, L_63, L_64, L_97, L_100, L_101, L_102, L_103, L_122, L_130, L_216, L_255, L_364, L_400, L_402, L_420, L_728, L_768, L_999, L_1000, L_1093, L_1872, L_2000, L_9999, L_12345, L_252645135, L_858993459, L_1103515245, L_1431655765, Lm_1, Lm_2, Lm_8, N_zero, N_cast, N_add, N_mul, N_sub, N_addM, N_lt_tp, N_lt_fp, N_le_tp, N_le_fp, N_eq_tp, N_eq_fp, MN_ltp, MN_lep, NM_ltp, NM_lep, NM_eqp, MN_eqp, MM_lt_tp, MM_lt_fp, MM_le_tp, MM_le_fp, MM_eq_tp, MM_eq_fp, N_cl, N_in_t, N_in_f, M_in, N_div, N_rem, N_nb0, N_nb1, cond_true, cond_false, Bool.not_true, Bool.not_false, Bool.and_true, Bool.true_and, Bool.and_false, Bool.false_and, decide_true, decide_false, Option.bind_some, Option.bind_none, k2]
        · have n1 : wb_nb (nN sg) = true := N_nb hsg
          have n2 : wb_nb (nN ld) = true := N_nb hld
          have n3 : wb_nb (nN br) = true := N_nb hbr
          have hX : Ok (q_X_tell sc h (nN i) (nN sg) (nN bb) (nN uu) (nN ld) (nN br)) (fun r => r.1 = nN k ∧ Fr [22, 23, 24, 25, 26, 7005] h r.2 ∧ r.2.1 10 0 5 = nN (k + 1) ∧ (r.2.1 22 0 k = nN i ∧ r.2.1 23 0 k = nN bb - nN uu ∧ r.2.1 24 0 k = nN sg ∧ r.2.1 25 0 k = nN ld ∧ r.2.1 26 0 k = nN br) ∧ (∀ j, j ≠ k → r.2.1 22 0 j = h.1 22 0 j ∧ r.2.1 23 0 j = h.1 23 0 j ∧ r.2.1 24 0 j = h.1 24 0 j ∧ r.2.1 25 0 j = h.1 25 0 j ∧ r.2.1 26 0 j = h.1 26 0 j)) := by
            rw [q_X_tell_eq, X_isHouse_t C hi]
            simp (disch := omega) only [L_0, L_1, L_2, L_3, L_4, L_5, L_6, L_7, L_8, L_9, L_10, L_11, L_12, L_13, L_14, L_15, L_16, L_17, L_18, L_19, L_20, L_21, L_22, L_23, L_24, L_25, L_26, L_27, L_28, L_29, L_30, L_31, L_32, L_33, L_34, L_35, L_40, L_41, L_42, L_43, L_44, L_45, L_47, L_48, L_50, L_53, L_57, L_59, L_60, L_61, L_63, L_64, L_97, L_100, L_101, L_102, L_103, L_122, L_130, L_216, L_255, L_364, L_400, L_402, L_420, L_728, L_768, L_999, L_1000, L_1093, L_1872, L_2000, L_9999, L_12345, L_252645135, L_858993459, L_1103515245, L_1431655765, Lm_1, Lm_2, Lm_8, N_zero, N_cast, N_add, N_mul, N_sub, N_addM, N_lt_tp, N_lt_fp, N_le_tp, N_le_fp, N_eq_tp, N_eq_fp, MN_ltp, MN_lep, NM_ltp, NM_lep, NM_eqp, MN_eqp, MM_lt_tp, MM_lt_fp, MM_le_tp, MM_le_fp, MM_eq_tp, MM_eq_fp, N_cl, N_in_t, N_in_f, M_in, N_div, N_rem, N_nb0, N_nb1, cond_true, cond_false, Bool.not_true, Bool.not_false, Bool.and_true, Bool.true_and, Bool.and_false, Bool.false_and, decide_true, decide_false, Option.bind_some, Option.bind_none, X_isSeen_t (sc := sc) (h := h) (show bb ≤ 6 by omega), X_isSeen_t (sc := sc) (h := h) (show uu ≤ 6 by omega)]
            rw [q_Diary_add_eq]
            simp (disch := omega) only [L_0, L_1, L_2, L_3, L_4, L_5, L_6, L_7, L_8, L_9, L_10, L_11, L_12, L_13, L_14, L_15, L_16, L_17, L_18, L_19, L_20, L_21, L_22, L_23, L_24, L_25, L_26, L_27, L_28, L_29, L_30, L_31, L_32, L_33, L_34, L_35, L_40, L_41, L_42, L_43, L_44, L_45, L_47, L_48, L_50, L_53, L_57, L_59, L_60, L_61, L_63, L_64, L_97, L_100, L_101, L_102, L_103, L_122, L_130, L_216, L_255, L_364, L_400, L_402, L_420, L_728, L_768, L_999, L_1000, L_1093, L_1872, L_2000, L_9999, L_12345, L_252645135, L_858993459, L_1103515245, L_1431655765, Lm_1, Lm_2, Lm_8, N_zero, N_cast, N_add, N_mul, N_sub, N_addM, N_lt_tp, N_lt_fp, N_le_tp, N_le_fp, N_eq_tp, N_eq_fp, MN_ltp, MN_lep, NM_ltp, NM_lep, NM_eqp, MN_eqp, MM_lt_tp, MM_lt_fp, MM_le_tp, MM_le_fp, MM_eq_tp, MM_eq_fp, N_cl, N_in_t, N_in_f, M_in, N_div, N_rem, N_nb0, N_nb1, cond_true, cond_false, Bool.not_true, Bool.not_false, Bool.and_true, Bool.true_and, Bool.and_false, Bool.false_and, decide_true, decide_false, Option.bind_some, Option.bind_none, k2, n1, iu_nt (show 10 ≠ 22 by decide), iu_nt (show 10 ≠ 23 by decide)]
            rw [q_Diary_add_L44_eq]
            simp (disch := omega) only [L_0, L_1, L_2, L_3, L_4, L_5, L_6, L_7, L_8, L_9, L_10, L_11, L_12, L_13, L_14, L_15, L_16, L_17, L_18, L_19, L_20, L_21, L_22, L_23, L_24, L_25, L_26, L_27, L_28, L_29, L_30, L_31, L_32, L_33, L_34, L_35, L_40, L_41, L_42, L_43, L_44, L_45, L_47, L_48, L_50, L_53, L_57, L_59, L_60, L_61, L_63, L_64, L_97, L_100, L_101, L_102, L_103, L_122, L_130, L_216, L_255, L_364, L_400, L_402, L_420, L_728, L_768, L_999, L_1000, L_1093, L_1872, L_2000, L_9999, L_12345, L_252645135, L_858993459, L_1103515245, L_1431655765, Lm_1, Lm_2, Lm_8, N_zero, N_cast, N_add, N_mul, N_sub, N_addM, N_lt_tp, N_lt_fp, N_le_tp, N_le_fp, N_eq_tp, N_eq_fp, MN_ltp, MN_lep, NM_ltp, NM_lep, NM_eqp, MN_eqp, MM_lt_tp, MM_lt_fp, MM_le_tp, MM_le_fp, MM_eq_tp, MM_eq_fp, N_cl, N_in_t, N_in_f, M_in, N_div, N_rem, N_nb0, N_nb1, cond_true, cond_false, Bool.not_true, Bool.not_false, Bool.and_true, Bool.true_and, Bool.and_false, Bool.false_and, decide_true, decide_false, Option.bind_some, Option.bind_none, k2, n2, n3, iu_nt (show 10 ≠ 22 by decide), iu_nt (show 10 ≠ 23 by decide), iu_nt (show 10 ≠ 24 by decide), iu_nt (show 10 ≠ 25 by decide), iu_nt (show 10 ≠ 26 by decide)]
            rw [q_Diary_add_L76_eq]
            simp only [Option.bind_some, iu_at, L_0, L_1, L_2, L_3, L_4, L_5, L_6, L_7, L_8, L_9, L_10, L_11, L_12, L_13, L_14, L_15, L_16, L_17, L_18, L_19, L_20, L_21, L_22, L_23, L_24, L_25, L_26, L_27, L_28, L_29, L_30, L_31, L_32, L_33, L_34, L_35, L_40, L_41, L_42, L_43, L_44, L_45, L_47, L_48, L_50, L_53, L_57, L_59, L_60, L_61, L_63, L_64, L_97, L_100, L_101, L_102, L_103, L_122, L_130, L_216, L_255, L_364, L_400, L_402, L_420, L_728, L_768, L_999, L_1000, L_1093, L_1872, L_2000, L_9999, L_12345, L_252645135, L_858993459, L_1103515245, L_1431655765, Lm_1, Lm_2, Lm_8]
            refine Ok_some ⟨?_, ?_, iu_at, ⟨?_, ?_, ?_, ?_, ?_⟩, fun j hj => ⟨?_, ?_, ?_, ?_, ?_⟩⟩
            · show nN (k + 1) - nN 1 = nN k
              rw [N_sub (by omega)]; rfl
            · exact Fr_trans (Fr_trans (Fr_trans (Fr_trans (Fr_trans (Fr_iu rfl) (Fr_iu rfl)) (Fr_iu rfl)) (Fr_iu rfl)) (Fr_iu rfl)) (Fr_iu rfl)
            · rw [iu_nt (by decide), iu_nt (by decide), iu_nt (by decide), iu_nt (by decide), iu_nt (by decide), iu_at]
            · rw [iu_nt (by decide), iu_nt (by decide), iu_nt (by decide), iu_nt (by decide), iu_at]
            · rw [iu_nt (by decide), iu_nt (by decide), iu_nt (by decide), iu_at]
            · rw [iu_nt (by decide), iu_nt (by decide), iu_at]
            · rw [iu_nt (by decide), iu_at]
            · rw [iu_nt (by decide), iu_nt (by decide), iu_nt (by decide), iu_nt (by decide), iu_nt (by decide), iu_ne hj]
            · rw [iu_nt (by decide), iu_nt (by decide), iu_nt (by decide), iu_nt (by decide), iu_ne hj, iu_nt (by decide)]
            · rw [iu_nt (by decide), iu_nt (by decide), iu_nt (by decide), iu_ne hj, iu_nt (by decide), iu_nt (by decide)]
            · rw [iu_nt (by decide), iu_nt (by decide), iu_ne hj, iu_nt (by decide), iu_nt (by decide), iu_nt (by decide)]
            · rw [iu_nt (by decide), iu_ne hj, iu_nt (by decide), iu_nt (by decide), iu_nt (by decide), iu_nt (by decide)]
          refine Ok_w hX ?_
          rintro ⟨x, h2⟩ ⟨x1, F2, l2, ⟨w1, w2, w3, w4, w5⟩, w6⟩
          simp only at x1 F2 l2 w1 w2 w3 w4 w5 w6 ⊢
          have k3' : h2.1 21 0 59 = nN k := (Fr_i F2 (by rfl)).trans k3
          have ish : q_M_isHouse sc h2 (nN i) = some (nN 1, h2) := by
            have n6 := C.1.1
            obtain ⟨a1, a2, a3, -⟩ := MT_fr F2 rfl rfl C.2.2.2.2.1
            rw [q_M_isHouse_eq]
            simp (disch := omega) only [L_0, L_1, L_2, L_3, L_4, L_5, L_6, L_7, L_8, L_9, L_10, L_11, L_12, L_13, L_14, L_15, L_16, L_17, L_18, L_19, L_20, L_21, L_22, L_23, L_24, L_25, L_26, L_27, L_28, L_29, L_30, L_31, L_32, L_33, L_34, L_35, L_40, L_41, L_42, L_43, L_44, L_45, L_47, L_48, L_50, L_53, L_57, L_59, L_60, L_61, L_63, L_64, L_97, L_100, L_101, L_102, L_103, L_122, L_130, L_216, L_255, L_364, L_400, L_402, L_420, L_728, L_768, L_999, L_1000, L_1093, L_1872, L_2000, L_9999, L_12345, L_252645135, L_858993459, L_1103515245, L_1431655765, Lm_1, Lm_2, Lm_8, N_zero, N_cast, N_add, N_mul, N_sub, N_addM, N_lt_tp, N_lt_fp, N_le_tp, N_le_fp, N_eq_tp, N_eq_fp, MN_ltp, MN_lep, NM_ltp, NM_lep, NM_eqp, MN_eqp, MM_lt_tp, MM_lt_fp, MM_le_tp, MM_le_fp, MM_eq_tp, MM_eq_fp, N_cl, N_in_t, N_in_f, M_in, N_div, N_rem, N_nb0, N_nb1, cond_true, cond_false, Bool.not_true, Bool.not_false, Bool.and_true, Bool.true_and, Bool.and_false, Bool.false_and, decide_true, decide_false, Option.bind_some, Option.bind_none, a2, a3, M_in_t (sc := sc) (h := h2) (show i ≤ tn T - 1 by omega) (show tn T - 1 ≤ 2147483647 by omega)]
          have m1 : ∀ g : wb_H, q_M_in sc g (nN bb) (nN 0) (nN 6) = some (nN 1, g) := fun g => M_in_t (by omega) (by decide)
          have m2 : ∀ g : wb_H, q_M_in sc g (nN uu) (nN 0) (nN 6) = some (nN 1, g) := fun g => M_in_t (by omega) (by decide)
          rw [q_M_tell_eq]
          simp (disch := omega) only [L_0, L_1, L_2, L_3, L_4, L_5, L_6, L_7, L_8, L_9, L_10, L_11, L_12, L_13, L_14, L_15, L_16, L_17, L_18, L_19, L_20, L_21, L_22, L_23, L_24, L_25, L_26, L_27, L_28, L_29, L_30, L_31, L_32, L_33, L_34, L_35, L_40, L_41, L_42, L_43, L_44, L_45, L_47, L_48, L_50, L_53, L_57, L_59, L_60, L_61, L_63, L_64, L_97, L_100, L_101, L_102, L_103, L_122, L_130, L_216, L_255, L_364, L_400, L_402, L_420, L_728, L_768, L_999, L_1000, L_1093, L_1872, L_2000, L_9999, L_12345, L_252645135, L_858993459, L_1103515245, L_1431655765, Lm_1, Lm_2, Lm_8, N_zero, N_cast, N_add, N_mul, N_sub, N_addM, N_lt_tp, N_lt_fp, N_le_tp, N_le_fp, N_eq_tp, N_eq_fp, MN_ltp, MN_lep, NM_ltp, NM_lep, NM_eqp, MN_eqp, MM_lt_tp, MM_lt_fp, MM_le_tp, MM_le_fp, MM_eq_tp, MM_eq_fp, N_cl, N_in_t, N_in_f, M_in, N_div, N_rem, N_nb0, N_nb1, cond_true, cond_false, Bool.not_true, Bool.not_false, Bool.and_true, Bool.true_and, Bool.and_false, Bool.false_and, decide_true, decide_false, Option.bind_some, Option.bind_none, k3', ish, m1, m2, iu_nt (show 21 ≠ 104 by decide), iu_nt (show 21 ≠ 105 by decide)]
          rw [q_M_tell_L71_eq]
          simp (disch := omega) only [L_0, L_1, L_2, L_3, L_4, L_5, L_6, L_7, L_8, L_9, L_10, L_11, L_12, L_13, L_14, L_15, L_16, L_17, L_18, L_19, L_20, L_21, L_22, L_23, L_24, L_25, L_26, L_27, L_28, L_29, L_30, L_31, L_32, L_33, L_34, L_35, L_40, L_41, L_42, L_43, L_44, L_45, L_47, L_48, L_50, L_53, L_57, L_59, L_60, L_61, L_63, L_64, L_97, L_100, L_101, L_102, L_103, L_122, L_130, L_216, L_255, L_364, L_400, L_402, L_420, L_728, L_768, L_999, L_1000, L_1093, L_1872, L_2000, L_9999, L_12345, L_252645135, L_858993459, L_1103515245, L_1431655765, Lm_1, Lm_2, Lm_8, N_zero, N_cast, N_add, N_mul, N_sub, N_addM, N_lt_tp, N_lt_fp, N_le_tp, N_le_fp, N_eq_tp, N_eq_fp, MN_ltp, MN_lep, NM_ltp, NM_lep, NM_eqp, MN_eqp, MM_lt_tp, MM_lt_fp, MM_le_tp, MM_le_fp, MM_eq_tp, MM_eq_fp, N_cl, N_in_t, N_in_f, M_in, N_div, N_rem, N_nb0, N_nb1, cond_true, cond_false, Bool.not_true, Bool.not_false, Bool.and_true, Bool.true_and, Bool.and_false, Bool.false_and, decide_true, decide_false, Option.bind_some, Option.bind_none, M_plainOf, k3', iu_nt (show 21 ≠ 104 by decide), iu_nt (show 21 ≠ 105 by decide), iu_nt (show 21 ≠ 106 by decide), iu_nt (show 21 ≠ 107 by decide), iu_at]
          generalize hh : wb_iu (wb_iu (wb_iu (wb_iu (wb_iu h2 104 0 k (nN i)) 105 0 k (nN bb)) 106 0 k (nN uu)) 107 0 k (nN (sg + 2 * ld + 4 * br))) 21 0 59 (nN (k + 1)) = h5
          have FM : Fr [104, 105, 106, 107, 1059] h2 h5 := by rw [← hh]; exact Fr_trans (Fr_trans (Fr_trans (Fr_trans (Fr_iu rfl) (Fr_iu rfl)) (Fr_iu rfl)) (Fr_iu rfl)) (Fr_iu rfl)
          have FF : Fr [22, 23, 24, 25, 26, 7005, 104, 105, 106, 107, 1059] h h5 := Fr_trans (Fr_mono F2 rfl) (Fr_mono FM rfl)
          refine Ok_some ⟨x1.symm, T, R, v, q, s, Core_gen C FF rfl rfl rfl rfl ?_ (Tape_f2 FF rfl C.2.2.2.2.2.2.2.2.2.2.2.1) (Keys_f2 FF rfl C.2.2.2.2.2.2.2.2.2.2.2.2), Cache_fr FF rfl rfl rfl D⟩
          refine ⟨k + 1, by omega, (Fr_i FM (by rfl)).trans l2, by rw [← hh, iu_at], fun j hj => ?_⟩
          by_cases y : j = k
          · subst y
            refine ⟨i, bb, uu, sg, ld, br, hi, by omega, by omega, hsg, hld, hbr, (Fr_i FM (by rfl)).trans w1, ?_, (Fr_i FM (by rfl)).trans w2, ?_, ?_, (Fr_i FM (by rfl)).trans w3, (Fr_i FM (by rfl)).trans w4, (Fr_i FM (by rfl)).trans w5, ?_⟩
            · rw [← hh, iu_nt (by decide), iu_nt (by decide), iu_nt (by decide), iu_nt (by decide), iu_at]
            · rw [← hh, iu_nt (by decide), iu_nt (by decide), iu_nt (by decide), iu_at]
            · rw [← hh, iu_nt (by decide), iu_nt (by decide), iu_at]
            · rw [← hh, iu_nt (by decide), iu_at]
          · obtain ⟨a, b, u, sg, ld, br, c1, c2, c3, c4, c5, c6, d1, d2, d3, d4, d5, d6, d7, d8, d9⟩ := k4 j (by omega)
            obtain ⟨v1, v2, v3, v4, v5⟩ := w6 j y
            refine ⟨a, b, u, sg, ld, br, c1, c2, c3, c4, c5, c6, ((Fr_i FM (by rfl)).trans v1).trans d1, ?_, ((Fr_i FM (by rfl)).trans v2).trans d3, ?_, ?_, ((Fr_i FM (by rfl)).trans v3).trans d6, ((Fr_i FM (by rfl)).trans v4).trans d7, ((Fr_i FM (by rfl)).trans v5).trans d8, ?_⟩
            · rw [← hh, iu_nt (by decide), iu_nt (by decide), iu_nt (by decide), iu_nt (by decide), iu_ne y]; exact (Fr_i F2 (by rfl)).trans d2
            · rw [← hh, iu_nt (by decide), iu_nt (by decide), iu_nt (by decide), iu_ne y, iu_nt (by decide)]; exact (Fr_i F2 (by rfl)).trans d4
            · rw [← hh, iu_nt (by decide), iu_nt (by decide), iu_ne y, iu_nt (by decide), iu_nt (by decide)]; exact (Fr_i F2 (by rfl)).trans d5
            · rw [← hh, iu_nt (by decide), iu_ne y, iu_nt (by decide), iu_nt (by decide), iu_nt (by decide)]; exact (Fr_i F2 (by rfl)).trans d9
      · refine nothing (a := nM 1) C D ?_ (mbad _ (Or.inr (Or.inr (Or.inr hu))) rfl)
        show q_X_tell sc h (nN i) (nN sg) (nN bb) u (nN ld) (nN br) = _
        rw [q_X_tell_eq, X_isHouse_t C hi]
        simp (disch := omega) only [L_0, L_1, L_2, L_3, L_4, L_5, L_6, L_7, L_8, L_9, L_10, L_11, L_12, L_13, L_14, L_15, L_16, L_17, L_18, L_19, L_20, L_21, L_22, L_23, L_24, L_25, L_26, L_27, L_28, L_29, L_30, L_31, L_32, L_33, L_34, L_35, L_40, L_41, L_42, L_43, L_44, L_45, L_47, L_48, L_50, L_53, L_57, L_59, L_60, L_61, L_63, L_64, L_97, L_100, L_101, L_102, L_103, L_122, L_130, L_216, L_255, L_364, L_400, L_402, L_420, L_728, L_768, L_999, L_1000, L_1093, L_1872, L_2000, L_9999, L_12345, L_252645135, L_858993459, L_1103515245, L_1431655765, Lm_1, Lm_2, Lm_8, N_zero, N_cast, N_add, N_mul, N_sub, N_addM, N_lt_tp, N_lt_fp, N_le_tp, N_le_fp, N_eq_tp, N_eq_fp, MN_ltp, MN_lep, NM_ltp, NM_lep, NM_eqp, MN_eqp, MM_lt_tp, MM_lt_fp, MM_le_tp, MM_le_fp, MM_eq_tp, MM_eq_fp, N_cl, N_in_t, N_in_f, M_in, N_div, N_rem, N_nb0, N_nb1, cond_true, cond_false, Bool.not_true, Bool.not_false, Bool.and_true, Bool.true_and, Bool.and_false, Bool.false_and, decide_true, decide_false, Option.bind_some, Option.bind_none, X_isSeen_t (sc := sc) (h := h) (show bb ≤ 6 by omega), X_isSeen_f (sc := sc) (h := h) hu]
    · refine nothing (a := nM 1) C D ?_ (mbad _ (Or.inr (Or.inr (Or.inl hb))) rfl)
      show q_X_tell sc h (nN i) (nN sg) b u (nN ld) (nN br) = _
      rw [q_X_tell_eq, X_isHouse_t C hi]
      simp (disch := omega) only [L_0, L_1, L_2, L_3, L_4, L_5, L_6, L_7, L_8, L_9, L_10, L_11, L_12, L_13, L_14, L_15, L_16, L_17, L_18, L_19, L_20, L_21, L_22, L_23, L_24, L_25, L_26, L_27, L_28, L_29, L_30, L_31, L_32, L_33, L_34, L_35, L_40, L_41, L_42, L_43, L_44, L_45, L_47, L_48, L_50, L_53, L_57, L_59, L_60, L_61, L_63, L_64, L_97, L_100, L_101, L_102, L_103, L_122, L_130, L_216, L_255, L_364, L_400, L_402, L_420, L_728, L_768, L_999, L_1000, L_1093, L_1872, L_2000, L_9999, L_12345, L_252645135, L_858993459, L_1103515245, L_1431655765, Lm_1, Lm_2, Lm_8, N_zero, N_cast, N_add, N_mul, N_sub, N_addM, N_lt_tp, N_lt_fp, N_le_tp, N_le_fp, N_eq_tp, N_eq_fp, MN_ltp, MN_lep, NM_ltp, NM_lep, NM_eqp, MN_eqp, MM_lt_tp, MM_lt_fp, MM_le_tp, MM_le_fp, MM_eq_tp, MM_eq_fp, N_cl, N_in_t, N_in_f, M_in, N_div, N_rem, N_nb0, N_nb1, cond_true, cond_false, Bool.not_true, Bool.not_false, Bool.and_true, Bool.true_and, Bool.and_false, Bool.false_and, decide_true, decide_false, Option.bind_some, Option.bind_none, X_isSeen_f (sc := sc) (h := h) hb]
  · refine nothing (a := nM 1) C D ?_ (mbad _ (Or.inr (Or.inl ha)) rfl)
    show q_X_tell sc h a (nN sg) b u (nN ld) (nN br) = _
    rw [q_X_tell_eq, X_isHouse_f C ha]
    simp (disch := omega) only [L_0, L_1, L_2, L_3, L_4, L_5, L_6, L_7, L_8, L_9, L_10, L_11, L_12, L_13, L_14, L_15, L_16, L_17, L_18, L_19, L_20, L_21, L_22, L_23, L_24, L_25, L_26, L_27, L_28, L_29, L_30, L_31, L_32, L_33, L_34, L_35, L_40, L_41, L_42, L_43, L_44, L_45, L_47, L_48, L_50, L_53, L_57, L_59, L_60, L_61, L_63, L_64, L_97, L_100, L_101, L_102, L_103, L_122, L_130, L_216, L_255, L_364, L_400, L_402, L_420, L_728, L_768, L_999, L_1000, L_1093, L_1872, L_2000, L_9999, L_12345, L_252645135, L_858993459, L_1103515245, L_1431655765, Lm_1, Lm_2, Lm_8, N_zero, N_cast, N_add, N_mul, N_sub, N_addM, N_lt_tp, N_lt_fp, N_le_tp, N_le_fp, N_eq_tp, N_eq_fp, MN_ltp, MN_lep, NM_ltp, NM_lep, NM_eqp, MN_eqp, MM_lt_tp, MM_lt_fp, MM_le_tp, MM_le_fp, MM_eq_tp, MM_eq_fp, N_cl, N_in_t, N_in_f, M_in, N_div, N_rem, N_nb0, N_nb1, cond_true, cond_false, Bool.not_true, Bool.not_false, Bool.and_true, Bool.true_and, Bool.and_false, Bool.false_and, decide_true, decide_false, Option.bind_some, Option.bind_none]
end
