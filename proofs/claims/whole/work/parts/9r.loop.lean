/-! The loop over houses and settings. -/
theorem kap_t1 : ∀ k, k < 42 → okB k = true → k ≠ 20 → kap k ≠ 0 := by decide +kernel
theorem kap_t2 : ∀ k, k < 32 → 27 ≤ k → kap k = k - 26 := by decide +kernel
theorem kap_t3 : ∀ k, k < 42 → okB k = true → (Nat.beq k 20 || Nat.ble 27 k && Nat.ble k 31 || Nat.blt 5 (kap k)) = true := by decide +kernel
theorem kap_t4 : ∀ k, k < 42 → okB k = true → k ≠ 0 → kap k ≠ 103 := by decide +kernel
theorem cond_bnd {α β : Type} (c : Bool) (a : Option α) (f : α → Option β) : (bif c then a else none).bind f = bif c then a.bind f else none := by cases c <;> rfl
noncomputable def hbX (sc : wb_X) (h3 : wb_H) : Option wb_H := bif (decide (0 < h3.2.2 16 0 2)) then bif (decide ((h3.2.2 16 0 2 - 1) < 2)) then ((q_Reader_parseHabit sc h3 (h3.1 15 (h3.2.2 16 0 2 - 1) 0)).bind fun h4 => semX sc h4) else none else none
section
variable {sc : wb_X} {q s : Nat} {kd pl : Nat → Nat} {vl : Nat → Int}
theorem tell_house {m : wb_H} {p n : Nat} (h11 : m.1 21 0 11 = nN p) (hp : p ≤ 400) (h67 : m.1 67 0 p = nN 20) (h19 : m.1 21 0 19 = nN s) (hs : s < 2) (h73 : m.1 73 0 s = nN n) (hn : n < 6) (h13 : m.1 21 0 13 = nN 0) : q_M_tellOne sc m = q_M_tellHouse sc m := by
  rw [q_M_tellOne_eq]
  simp (disch := omega) only [L_0, L_1, L_2, L_3, L_4, L_5, L_6, L_7, L_8, L_9, L_10, L_11, L_12, L_13, L_14, L_15, L_16, L_17, L_18, L_19, L_20, L_21, L_22, L_23, L_24, L_25, L_26, L_27, L_28, L_29, L_30, L_31, L_32, L_33, L_34, L_35, L_40, L_41, L_42, L_43, L_44, L_45, L_47, L_48, L_50, L_53, L_57, L_59, L_60, L_61, L_63, L_64, L_97, L_100, L_101, L_102, L_103, L_122, L_130, L_216, L_255, L_364, L_400, L_402, L_420, L_728, L_768, L_999, L_1000, L_1093, L_1872, L_2000, L_9999, L_12345, L_252645135, L_858993459, L_1103515245, L_1431655765, Lm_1, Lm_2, Lm_8, N_zero, N_cast, N_add, N_mul, N_sub, N_addM, N_lt_tp, N_lt_fp, N_le_tp, N_le_fp, N_eq_tp, N_eq_fp, MN_ltp, MN_lep, NM_ltp, NM_lep, NM_eqp, MN_eqp, MM_lt_tp, MM_lt_fp, MM_le_tp, MM_le_fp, MM_eq_tp, MM_eq_fp, N_cl, N_in_t, N_in_f, M_in, N_div, N_rem, N_nb0, N_nb1, cond_true, cond_false, Bool.not_true, Bool.not_false, Bool.and_true, Bool.true_and, Bool.and_false, Bool.false_and, decide_true, decide_false, Option.bind_some, Option.bind_none, h11, h67, h19, h73, h13, bnd_some]
theorem tell_full {m : wb_H} {p : Nat} (h11 : m.1 21 0 11 = nN p) (hp : p ≤ 400) (h67 : m.1 67 0 p = nN 20) (h19 : m.1 21 0 19 = nN s) (hs : s < 2) (h73 : m.1 73 0 s = nN 6) {m1 : wb_H} {f e : Nat} (hf : q_M_fail sc m (nN 2) = some m1) (D : DdM f e m1) : q_M_tellOne sc m = some m1 := by
  have d0 := D.1
  have d5 := D.2.1
  have d3 := D.2.2.1
  rw [q_M_tellOne_eq]
  simp (disch := omega) only [L_0, L_1, L_2, L_3, L_4, L_5, L_6, L_7, L_8, L_9, L_10, L_11, L_12, L_13, L_14, L_15, L_16, L_17, L_18, L_19, L_20, L_21, L_22, L_23, L_24, L_25, L_26, L_27, L_28, L_29, L_30, L_31, L_32, L_33, L_34, L_35, L_40, L_41, L_42, L_43, L_44, L_45, L_47, L_48, L_50, L_53, L_57, L_59, L_60, L_61, L_63, L_64, L_97, L_100, L_101, L_102, L_103, L_122, L_130, L_216, L_255, L_364, L_400, L_402, L_420, L_728, L_768, L_999, L_1000, L_1093, L_1872, L_2000, L_9999, L_12345, L_252645135, L_858993459, L_1103515245, L_1431655765, Lm_1, Lm_2, Lm_8, N_zero, N_cast, N_add, N_mul, N_sub, N_addM, N_lt_tp, N_lt_fp, N_le_tp, N_le_fp, N_eq_tp, N_eq_fp, MN_ltp, MN_lep, NM_ltp, NM_lep, NM_eqp, MN_eqp, MM_lt_tp, MM_lt_fp, MM_le_tp, MM_le_fp, MM_eq_tp, MM_eq_fp, N_cl, N_in_t, N_in_f, M_in, N_div, N_rem, N_nb0, N_nb1, cond_true, cond_false, Bool.not_true, Bool.not_false, Bool.and_true, Bool.true_and, Bool.and_false, Bool.false_and, decide_true, decide_false, Option.bind_some, Option.bind_none, h11, h67, h19, h73, hf, d3]
theorem tell_bad {m : wb_H} {p k : Nat} (h11 : m.1 21 0 11 = nN p) (hp : p ≤ 400) (h67 : m.1 67 0 p = nN k) (hk : k < 42) (k20 : k ≠ 20) (k27 : ¬ (27 ≤ k ∧ k ≤ 31)) : q_M_tellOne sc m = q_M_fail sc m (nN 1) := by
  rw [q_M_tellOne_eq]
  rcases (show k = 21 ∨ k = 22 ∨ k = 23 ∨ k = 24 ∨ k = 25 ∨ k = 26 ∨ (k < 20 ∨ 31 < k) by omega) with e | e | e | e | e | e | e
  · subst e
    simp (disch := omega) only [L_0, L_1, L_2, L_3, L_4, L_5, L_6, L_7, L_8, L_9, L_10, L_11, L_12, L_13, L_14, L_15, L_16, L_17, L_18, L_19, L_20, L_21, L_22, L_23, L_24, L_25, L_26, L_27, L_28, L_29, L_30, L_31, L_32, L_33, L_34, L_35, L_40, L_41, L_42, L_43, L_44, L_45, L_47, L_48, L_50, L_53, L_57, L_59, L_60, L_61, L_63, L_64, L_97, L_100, L_101, L_102, L_103, L_122, L_130, L_216, L_255, L_364, L_400, L_402, L_420, L_728, L_768, L_999, L_1000, L_1093, L_1872, L_2000, L_9999, L_12345, L_252645135, L_858993459, L_1103515245, L_1431655765, Lm_1, Lm_2, Lm_8, N_zero, N_cast, N_add, N_mul, N_sub, N_addM, N_lt_tp, N_lt_fp, N_le_tp, N_le_fp, N_eq_tp, N_eq_fp, MN_ltp, MN_lep, NM_ltp, NM_lep, NM_eqp, MN_eqp, MM_lt_tp, MM_lt_fp, MM_le_tp, MM_le_fp, MM_eq_tp, MM_eq_fp, N_cl, N_in_t, N_in_f, M_in, N_div, N_rem, N_nb0, N_nb1, cond_true, cond_false, Bool.not_true, Bool.not_false, Bool.and_true, Bool.true_and, Bool.and_false, Bool.false_and, decide_true, decide_false, Option.bind_some, Option.bind_none, h11, h67, bnd_some]
  · subst e
    simp (disch := omega) only [L_0, L_1, L_2, L_3, L_4, L_5, L_6, L_7, L_8, L_9, L_10, L_11, L_12, L_13, L_14, L_15, L_16, L_17, L_18, L_19, L_20, L_21, L_22, L_23, L_24, L_25, L_26, L_27, L_28, L_29, L_30, L_31, L_32, L_33, L_34, L_35, L_40, L_41, L_42, L_43, L_44, L_45, L_47, L_48, L_50, L_53, L_57, L_59, L_60, L_61, L_63, L_64, L_97, L_100, L_101, L_102, L_103, L_122, L_130, L_216, L_255, L_364, L_400, L_402, L_420, L_728, L_768, L_999, L_1000, L_1093, L_1872, L_2000, L_9999, L_12345, L_252645135, L_858993459, L_1103515245, L_1431655765, Lm_1, Lm_2, Lm_8, N_zero, N_cast, N_add, N_mul, N_sub, N_addM, N_lt_tp, N_lt_fp, N_le_tp, N_le_fp, N_eq_tp, N_eq_fp, MN_ltp, MN_lep, NM_ltp, NM_lep, NM_eqp, MN_eqp, MM_lt_tp, MM_lt_fp, MM_le_tp, MM_le_fp, MM_eq_tp, MM_eq_fp, N_cl, N_in_t, N_in_f, M_in, N_div, N_rem, N_nb0, N_nb1, cond_true, cond_false, Bool.not_true, Bool.not_false, Bool.and_true, Bool.true_and, Bool.and_false, Bool.false_and, decide_true, decide_false, Option.bind_some, Option.bind_none, h11, h67, bnd_some]
  · subst e
    simp (disch := omega) only [L_0, L_1, L_2, L_3, L_4, L_5, L_6, L_7, L_8, L_9, L_10, L_11, L_12, L_13, L_14, L_15, L_16, L_17, L_18, L_19, L_20, L_21, L_22, L_23, L_24, L_25, L_26, L_27, L_28, L_29, L_30, L_31, L_32, L_33, L_34, L_35, L_40, L_41, L_42, L_43, L_44, L_45, L_47, L_48, L_50, L_53, L_57, L_59, L_60, L_61, L_63, L_64, L_97, L_100, L_101, L_102, L_103, L_122, L_130, L_216, L_255, L_364, L_400, L_402, L_420, L_728, L_768, L_999, L_1000, L_1093, L_1872, L_2000, L_9999, L_12345, L_252645135, L_858993459, L_1103515245, L_1431655765, Lm_1, Lm_2, Lm_8, N_zero, N_cast, N_add, N_mul, N_sub, N_addM, N_lt_tp, N_lt_fp, N_le_tp, N_le_fp, N_eq_tp, N_eq_fp, MN_ltp, MN_lep, NM_ltp, NM_lep, NM_eqp, MN_eqp, MM_lt_tp, MM_lt_fp, MM_le_tp, MM_le_fp, MM_eq_tp, MM_eq_fp, N_cl, N_in_t, N_in_f, M_in, N_div, N_rem, N_nb0, N_nb1, cond_true, cond_false, Bool.not_true, Bool.not_false, Bool.and_true, Bool.true_and, Bool.and_false, Bool.false_and, decide_true, decide_false, Option.bind_some, Option.bind_none, h11, h67, bnd_some]
  · subst e
    simp (disch := omega) only [L_0, L_1, L_2, L_3, L_4, L_5, L_6, L_7, L_8, L_9, L_10, L_11, L_12, L_13, L_14, L_15, L_16, L_17, L_18, L_19, L_20, L_21, L_22, L_23, L_24, L_25, L_26, L_27, L_28, L_29, L_30, L_31, L_32, L_33, L_34, L_35, L_40, L_41, L_42, L_43, L_44, L_45, L_47, L_48, L_50, L_53, L_57, L_59, L_60, L_61, L_63, L_64, L_97, L_100, L_101, L_102, L_103, L_122, L_130, L_216, L_255, L_364, L_400, L_402, L_420, L_728, L_768, L_999, L_1000, L_1093, L_1872, L_2000, L_9999, L_12345, L_252645135, L_858993459, L_1103515245, L_1431655765, Lm_1, Lm_2, Lm_8, N_zero, N_cast, N_add, N_mul, N_sub, N_addM, N_lt_tp, N_lt_fp, N_le_tp, N_le_fp, N_eq_tp, N_eq_fp, MN_ltp, MN_lep, NM_ltp, NM_lep, NM_eqp, MN_eqp, MM_lt_tp, MM_lt_fp, MM_le_tp, MM_le_fp, MM_eq_tp, MM_eq_fp, N_cl, N_in_t, N_in_f, M_in, N_div, N_rem, N_nb0, N_nb1, cond_true, cond_false, Bool.not_true, Bool.not_false, Bool.and_true, Bool.true_and, Bool.and_false, Bool.false_and, decide_true, decide_false, Option.bind_some, Option.bind_none, h11, h67, bnd_some]
  · subst e
    simp (disch := omega) only [L_0, L_1, L_2, L_3, L_4, L_5, L_6, L_7, L_8, L_9, L_10, L_11, L_12, L_13, L_14, L_15, L_16, L_17, L_18, L_19, L_20, L_21, L_22, L_23, L_24, L_25, L_26, L_27, L_28, L_29, L_30, L_31, L_32, L_33, L_34, L_35, L_40, L_41, L_42, L_43, L_44, L_45, L_47, L_48, L_50, L_53, L_57, L_59, L_60, L_61, L_63, L_64, L_97, L_100, L_101, L_102, L_103, L_122, L_130, L_216, L_255, L_364, L_400, L_402, L_420, L_728, L_768, L_999, L_1000, L_1093, L_1872, L_2000, L_9999, L_12345, L_252645135, L_858993459, L_1103515245, L_1431655765, Lm_1, Lm_2, Lm_8, N_zero, N_cast, N_add, N_mul, N_sub, N_addM, N_lt_tp, N_lt_fp, N_le_tp, N_le_fp, N_eq_tp, N_eq_fp, MN_ltp, MN_lep, NM_ltp, NM_lep, NM_eqp, MN_eqp, MM_lt_tp, MM_lt_fp, MM_le_tp, MM_le_fp, MM_eq_tp, MM_eq_fp, N_cl, N_in_t, N_in_f, M_in, N_div, N_rem, N_nb0, N_nb1, cond_true, cond_false, Bool.not_true, Bool.not_false, Bool.and_true, Bool.true_and, Bool.and_false, Bool.false_and, decide_true, decide_false, Option.bind_some, Option.bind_none, h11, h67, bnd_some]
  · subst e
    simp (disch := omega) only [L_0, L_1, L_2, L_3, L_4, L_5, L_6, L_7, L_8, L_9, L_10, L_11, L_12, L_13, L_14, L_15, L_16, L_17, L_18, L_19, L_20, L_21, L_22, L_23, L_24, L_25, L_26, L_27, L_28, L_29, L_30, L_31, L_32, L_33, L_34, L_35, L_40, L_41, L_42, L_43, L_44, L_45, L_47, L_48, L_50, L_53, L_57, L_59, L_60, L_61, L_63, L_64, L_97, L_100, L_101, L_102, L_103, L_122, L_130, L_216, L_255, L_364, L_400, L_402, L_420, L_728, L_768, L_999, L_1000, L_1093, L_1872, L_2000, L_9999, L_12345, L_252645135, L_858993459, L_1103515245, L_1431655765, Lm_1, Lm_2, Lm_8, N_zero, N_cast, N_add, N_mul, N_sub, N_addM, N_lt_tp, N_lt_fp, N_le_tp, N_le_fp, N_eq_tp, N_eq_fp, MN_ltp, MN_lep, NM_ltp, NM_lep, NM_eqp, MN_eqp, MM_lt_tp, MM_lt_fp, MM_le_tp, MM_le_fp, MM_eq_tp, MM_eq_fp, N_cl, N_in_t, N_in_f, M_in, N_div, N_rem, N_nb0, N_nb1, cond_true, cond_false, Bool.not_true, Bool.not_false, Bool.and_true, Bool.true_and, Bool.and_false, Bool.false_and, decide_true, decide_false, Option.bind_some, Option.bind_none, h11, h67, bnd_some]
  · simp (disch := omega) only [L_0, L_1, L_2, L_3, L_4, L_5, L_6, L_7, L_8, L_9, L_10, L_11, L_12, L_13, L_14, L_15, L_16, L_17, L_18, L_19, L_20, L_21, L_22, L_23, L_24, L_25, L_26, L_27, L_28, L_29, L_30, L_31, L_32, L_33, L_34, L_35, L_40, L_41, L_42, L_43, L_44, L_45, L_47, L_48, L_50, L_53, L_57, L_59, L_60, L_61, L_63, L_64, L_97, L_100, L_101, L_102, L_103, L_122, L_130, L_216, L_255, L_364, L_400, L_402, L_420, L_728, L_768, L_999, L_1000, L_1093, L_1872, L_2000, L_9999, L_12345, L_252645135, L_858993459, L_1103515245, L_1431655765, Lm_1, Lm_2, Lm_8, N_zero, N_cast, N_add, N_mul, N_sub, N_addM, N_lt_tp, N_lt_fp, N_le_tp, N_le_fp, N_eq_tp, N_eq_fp, MN_ltp, MN_lep, NM_ltp, NM_lep, NM_eqp, MN_eqp, MM_lt_tp, MM_lt_fp, MM_le_tp, MM_le_fp, MM_eq_tp, MM_eq_fp, N_cl, N_in_t, N_in_f, M_in, N_div, N_rem, N_nb0, N_nb1, cond_true, cond_false, Bool.not_true, Bool.not_false, Bool.and_true, Bool.true_and, Bool.and_false, Bool.false_and, decide_true, decide_false, Option.bind_some, Option.bind_none, h11, h67, bnd_some]
theorem tell_set {m : wb_H} {p j : Nat} (h11 : m.1 21 0 11 = nN p) (hp : p ≤ 400) (h67 : m.1 67 0 p = nN (27 + j)) (hj : j < 5) (h19 : m.1 21 0 19 = nN s) (hs : s < 2) : q_M_tellOne sc m = (q_M_setting sc m (nN (smx j))).bind fun r => some (wb_iu r.2 (80 + j) 0 s r.1) := by
  rw [q_M_tellOne_eq]
  rcases (show j = 0 ∨ j = 1 ∨ j = 2 ∨ j = 3 ∨ j = 4 by omega) with e | e | e | e | e
  · subst e
    simp (disch := omega) only [L_0, L_1, L_2, L_3, L_4, L_5, L_6, L_7, L_8, L_9, L_10, L_11, L_12, L_13, L_14, L_15, L_16, L_17, L_18, L_19, L_20, L_21, L_22, L_23, L_24, L_25, L_26, L_27, L_28, L_29, L_30, L_31, L_32, L_33, L_34, L_35, L_40, L_41, L_42, L_43, L_44, L_45, L_47, L_48, L_50, L_53, L_57, L_59, L_60, L_61, L_63, L_64, L_97, L_100, L_101, L_102, L_103, L_122, L_130, L_216, L_255, L_364, L_400, L_402, L_420, L_728, L_768, L_999, L_1000, L_1093, L_1872, L_2000, L_9999, L_12345, L_252645135, L_858993459, L_1103515245, L_1431655765, Lm_1, Lm_2, Lm_8, N_zero, N_cast, N_add, N_mul, N_sub, N_addM, N_lt_tp, N_lt_fp, N_le_tp, N_le_fp, N_eq_tp, N_eq_fp, MN_ltp, MN_lep, NM_ltp, NM_lep, NM_eqp, MN_eqp, MM_lt_tp, MM_lt_fp, MM_le_tp, MM_le_fp, MM_eq_tp, MM_eq_fp, N_cl, N_in_t, N_in_f, M_in, N_div, N_rem, N_nb0, N_nb1, cond_true, cond_false, Bool.not_true, Bool.not_false, Bool.and_true, Bool.true_and, Bool.and_false, Bool.false_and, decide_true, decide_false, Option.bind_some, Option.bind_none, h11, h67, h19]
    rfl
  · subst e
    simp (disch := omega) only [L_0, L_1, L_2, L_3, L_4, L_5, L_6, L_7, L_8, L_9, L_10, L_11, L_12, L_13, L_14, L_15, L_16, L_17, L_18, L_19, L_20, L_21, L_22, L_23, L_24, L_25, L_26, L_27, L_28, L_29, L_30, L_31, L_32, L_33, L_34, L_35, L_40, L_41, L_42, L_43, L_44, L_45, L_47, L_48, L_50, L_53, L_57, L_59, L_60, L_61, L_63, L_64, L_97, L_100, L_101, L_102, L_103, L_122, L_130, L_216, L_255, L_364, L_400, L_402, L_420, L_728, L_768, L_999, L_1000, L_1093, L_1872, L_2000, L_9999, L_12345, L_252645135, L_858993459, L_1103515245, L_1431655765, Lm_1, Lm_2, Lm_8, N_zero, N_cast, N_add, N_mul, N_sub, N_addM, N_lt_tp, N_lt_fp, N_le_tp, N_le_fp, N_eq_tp, N_eq_fp, MN_ltp, MN_lep, NM_ltp, NM_lep, NM_eqp, MN_eqp, MM_lt_tp, MM_lt_fp, MM_le_tp, MM_le_fp, MM_eq_tp, MM_eq_fp, N_cl, N_in_t, N_in_f, M_in, N_div, N_rem, N_nb0, N_nb1, cond_true, cond_false, Bool.not_true, Bool.not_false, Bool.and_true, Bool.true_and, Bool.and_false, Bool.false_and, decide_true, decide_false, Option.bind_some, Option.bind_none, h11, h67, h19]
    rfl
  · subst e
    simp (disch := omega) only [L_0, L_1, L_2, L_3, L_4, L_5, L_6, L_7, L_8, L_9, L_10, L_11, L_12, L_13, L_14, L_15, L_16, L_17, L_18, L_19, L_20, L_21, L_22, L_23, L_24, L_25, L_26, L_27, L_28, L_29, L_30, L_31, L_32, L_33, L_34, L_35, L_40, L_41, L_42, L_43, L_44, L_45, L_47, L_48, L_50, L_53, L_57, L_59, L_60, L_61, L_63, L_64, L_97, L_100, L_101, L_102, L_103, L_122, L_130, L_216, L_255, L_364, L_400, L_402, L_420, L_728, L_768, L_999, L_1000, L_1093, L_1872, L_2000, L_9999, L_12345, L_252645135, L_858993459, L_1103515245, L_1431655765, Lm_1, Lm_2, Lm_8, N_zero, N_cast, N_add, N_mul, N_sub, N_addM, N_lt_tp, N_lt_fp, N_le_tp, N_le_fp, N_eq_tp, N_eq_fp, MN_ltp, MN_lep, NM_ltp, NM_lep, NM_eqp, MN_eqp, MM_lt_tp, MM_lt_fp, MM_le_tp, MM_le_fp, MM_eq_tp, MM_eq_fp, N_cl, N_in_t, N_in_f, M_in, N_div, N_rem, N_nb0, N_nb1, cond_true, cond_false, Bool.not_true, Bool.not_false, Bool.and_true, Bool.true_and, Bool.and_false, Bool.false_and, decide_true, decide_false, Option.bind_some, Option.bind_none, h11, h67, h19]
    rfl
  · subst e
    simp (disch := omega) only [L_0, L_1, L_2, L_3, L_4, L_5, L_6, L_7, L_8, L_9, L_10, L_11, L_12, L_13, L_14, L_15, L_16, L_17, L_18, L_19, L_20, L_21, L_22, L_23, L_24, L_25, L_26, L_27, L_28, L_29, L_30, L_31, L_32, L_33, L_34, L_35, L_40, L_41, L_42, L_43, L_44, L_45, L_47, L_48, L_50, L_53, L_57, L_59, L_60, L_61, L_63, L_64, L_97, L_100, L_101, L_102, L_103, L_122, L_130, L_216, L_255, L_364, L_400, L_402, L_420, L_728, L_768, L_999, L_1000, L_1093, L_1872, L_2000, L_9999, L_12345, L_252645135, L_858993459, L_1103515245, L_1431655765, Lm_1, Lm_2, Lm_8, N_zero, N_cast, N_add, N_mul, N_sub, N_addM, N_lt_tp, N_lt_fp, N_le_tp, N_le_fp, N_eq_tp, N_eq_fp, MN_ltp, MN_lep, NM_ltp, NM_lep, NM_eqp, MN_eqp, MM_lt_tp, MM_lt_fp, MM_le_tp, MM_le_fp, MM_eq_tp, MM_eq_fp, N_cl, N_in_t, N_in_f, M_in, N_div, N_rem, N_nb0, N_nb1, cond_true, cond_false, Bool.not_true, Bool.not_false, Bool.and_true, Bool.true_and, Bool.and_false, Bool.false_and, decide_true, decide_false, Option.bind_some, Option.bind_none, h11, h67, h19]
    rfl
  · subst e
    simp (disch := omega) only [L_0, L_1, L_2, L_3, L_4, L_5, L_6, L_7, L_8, L_9, L_10, L_11, L_12, L_13, L_14, L_15, L_16, L_17, L_18, L_19, L_20, L_21, L_22, L_23, L_24, L_25, L_26, L_27, L_28, L_29, L_30, L_31, L_32, L_33, L_34, L_35, L_40, L_41, L_42, L_43, L_44, L_45, L_47, L_48, L_50, L_53, L_57, L_59, L_60, L_61, L_63, L_64, L_97, L_100, L_101, L_102, L_103, L_122, L_130, L_216, L_255, L_364, L_400, L_402, L_420, L_728, L_768, L_999, L_1000, L_1093, L_1872, L_2000, L_9999, L_12345, L_252645135, L_858993459, L_1103515245, L_1431655765, Lm_1, Lm_2, Lm_8, N_zero, N_cast, N_add, N_mul, N_sub, N_addM, N_lt_tp, N_lt_fp, N_le_tp, N_le_fp, N_eq_tp, N_eq_fp, MN_ltp, MN_lep, NM_ltp, NM_lep, NM_eqp, MN_eqp, MM_lt_tp, MM_lt_fp, MM_le_tp, MM_le_fp, MM_eq_tp, MM_eq_fp, N_cl, N_in_t, N_in_f, M_in, N_div, N_rem, N_nb0, N_nb1, cond_true, cond_false, Bool.not_true, Bool.not_false, Bool.and_true, Bool.true_and, Bool.and_false, Bool.false_and, decide_true, decide_false, Option.bind_some, Option.bind_none, h11, h67, h19]
    rfl
theorem X_set {x : wb_H} {j : Nat} (h4 : x.1 16 0 4 = nN (1 + j)) (hj : j < 5) : q_Reader_parseSetting sc x = (q_Reader_take sc x (nN (1 + j))).bind (setX sc q j) := by
  rw [q_Reader_parseSetting_eq]
  unfold setX
  rcases (show j = 0 ∨ j = 1 ∨ j = 2 ∨ j = 3 ∨ j = 4 by omega) with e | e | e | e | e
  · subst e
    simp (disch := omega) only [L_0, L_1, L_2, L_3, L_4, L_5, L_6, L_7, L_8, L_9, L_10, L_11, L_12, L_13, L_14, L_15, L_16, L_17, L_18, L_19, L_20, L_21, L_22, L_23, L_24, L_25, L_26, L_27, L_28, L_29, L_30, L_31, L_32, L_33, L_34, L_35, L_40, L_41, L_42, L_43, L_44, L_45, L_47, L_48, L_50, L_53, L_57, L_59, L_60, L_61, L_63, L_64, L_97, L_100, L_101, L_102, L_103, L_122, L_130, L_216, L_255, L_364, L_400, L_402, L_420, L_728, L_768, L_999, L_1000, L_1093, L_1872, L_2000, L_9999, L_12345, L_252645135, L_858993459, L_1103515245, L_1431655765, Lm_1, Lm_2, Lm_8, N_zero, N_cast, N_add, N_mul, N_sub, N_addM, N_lt_tp, N_lt_fp, N_le_tp, N_le_fp, N_eq_tp, N_eq_fp, MN_ltp, MN_lep, NM_ltp, NM_lep, NM_eqp, MN_eqp, MM_lt_tp, MM_lt_fp, MM_le_tp, MM_le_fp, MM_eq_tp, MM_eq_fp, N_cl, N_in_t, N_in_f, M_in, N_div, N_rem, N_nb0, N_nb1, cond_true, cond_false, Bool.not_true, Bool.not_false, Bool.and_true, Bool.true_and, Bool.and_false, Bool.false_and, decide_true, decide_false, Option.bind_some, Option.bind_none, h4]
    rfl
  · subst e
    simp (disch := omega) only [L_0, L_1, L_2, L_3, L_4, L_5, L_6, L_7, L_8, L_9, L_10, L_11, L_12, L_13, L_14, L_15, L_16, L_17, L_18, L_19, L_20, L_21, L_22, L_23, L_24, L_25, L_26, L_27, L_28, L_29, L_30, L_31, L_32, L_33, L_34, L_35, L_40, L_41, L_42, L_43, L_44, L_45, L_47, L_48, L_50, L_53, L_57, L_59, L_60, L_61, L_63, L_64, L_97, L_100, L_101, L_102, L_103, L_122, L_130, L_216, L_255, L_364, L_400, L_402, L_420, L_728, L_768, L_999, L_1000, L_1093, L_1872, L_2000, L_9999, L_12345, L_252645135, L_858993459, L_1103515245, L_1431655765, Lm_1, Lm_2, Lm_8, N_zero, N_cast, N_add, N_mul, N_sub, N_addM, N_lt_tp, N_lt_fp, N_le_tp, N_le_fp, N_eq_tp, N_eq_fp, MN_ltp, MN_lep, NM_ltp, NM_lep, NM_eqp, MN_eqp, MM_lt_tp, MM_lt_fp, MM_le_tp, MM_le_fp, MM_eq_tp, MM_eq_fp, N_cl, N_in_t, N_in_f, M_in, N_div, N_rem, N_nb0, N_nb1, cond_true, cond_false, Bool.not_true, Bool.not_false, Bool.and_true, Bool.true_and, Bool.and_false, Bool.false_and, decide_true, decide_false, Option.bind_some, Option.bind_none, h4]
    rfl
  · subst e
    simp (disch := omega) only [L_0, L_1, L_2, L_3, L_4, L_5, L_6, L_7, L_8, L_9, L_10, L_11, L_12, L_13, L_14, L_15, L_16, L_17, L_18, L_19, L_20, L_21, L_22, L_23, L_24, L_25, L_26, L_27, L_28, L_29, L_30, L_31, L_32, L_33, L_34, L_35, L_40, L_41, L_42, L_43, L_44, L_45, L_47, L_48, L_50, L_53, L_57, L_59, L_60, L_61, L_63, L_64, L_97, L_100, L_101, L_102, L_103, L_122, L_130, L_216, L_255, L_364, L_400, L_402, L_420, L_728, L_768, L_999, L_1000, L_1093, L_1872, L_2000, L_9999, L_12345, L_252645135, L_858993459, L_1103515245, L_1431655765, Lm_1, Lm_2, Lm_8, N_zero, N_cast, N_add, N_mul, N_sub, N_addM, N_lt_tp, N_lt_fp, N_le_tp, N_le_fp, N_eq_tp, N_eq_fp, MN_ltp, MN_lep, NM_ltp, NM_lep, NM_eqp, MN_eqp, MM_lt_tp, MM_lt_fp, MM_le_tp, MM_le_fp, MM_eq_tp, MM_eq_fp, N_cl, N_in_t, N_in_f, M_in, N_div, N_rem, N_nb0, N_nb1, cond_true, cond_false, Bool.not_true, Bool.not_false, Bool.and_true, Bool.true_and, Bool.and_false, Bool.false_and, decide_true, decide_false, Option.bind_some, Option.bind_none, h4]
    rfl
  · subst e
    simp (disch := omega) only [L_0, L_1, L_2, L_3, L_4, L_5, L_6, L_7, L_8, L_9, L_10, L_11, L_12, L_13, L_14, L_15, L_16, L_17, L_18, L_19, L_20, L_21, L_22, L_23, L_24, L_25, L_26, L_27, L_28, L_29, L_30, L_31, L_32, L_33, L_34, L_35, L_40, L_41, L_42, L_43, L_44, L_45, L_47, L_48, L_50, L_53, L_57, L_59, L_60, L_61, L_63, L_64, L_97, L_100, L_101, L_102, L_103, L_122, L_130, L_216, L_255, L_364, L_400, L_402, L_420, L_728, L_768, L_999, L_1000, L_1093, L_1872, L_2000, L_9999, L_12345, L_252645135, L_858993459, L_1103515245, L_1431655765, Lm_1, Lm_2, Lm_8, N_zero, N_cast, N_add, N_mul, N_sub, N_addM, N_lt_tp, N_lt_fp, N_le_tp, N_le_fp, N_eq_tp, N_eq_fp, MN_ltp, MN_lep, NM_ltp, NM_lep, NM_eqp, MN_eqp, MM_lt_tp, MM_lt_fp, MM_le_tp, MM_le_fp, MM_eq_tp, MM_eq_fp, N_cl, N_in_t, N_in_f, M_in, N_div, N_rem, N_nb0, N_nb1, cond_true, cond_false, Bool.not_true, Bool.not_false, Bool.and_true, Bool.true_and, Bool.and_false, Bool.false_and, decide_true, decide_false, Option.bind_some, Option.bind_none, h4]
    rfl
  · subst e
    simp (disch := omega) only [L_0, L_1, L_2, L_3, L_4, L_5, L_6, L_7, L_8, L_9, L_10, L_11, L_12, L_13, L_14, L_15, L_16, L_17, L_18, L_19, L_20, L_21, L_22, L_23, L_24, L_25, L_26, L_27, L_28, L_29, L_30, L_31, L_32, L_33, L_34, L_35, L_40, L_41, L_42, L_43, L_44, L_45, L_47, L_48, L_50, L_53, L_57, L_59, L_60, L_61, L_63, L_64, L_97, L_100, L_101, L_102, L_103, L_122, L_130, L_216, L_255, L_364, L_400, L_402, L_420, L_728, L_768, L_999, L_1000, L_1093, L_1872, L_2000, L_9999, L_12345, L_252645135, L_858993459, L_1103515245, L_1431655765, Lm_1, Lm_2, Lm_8, N_zero, N_cast, N_add, N_mul, N_sub, N_addM, N_lt_tp, N_lt_fp, N_le_tp, N_le_fp, N_eq_tp, N_eq_fp, MN_ltp, MN_lep, NM_ltp, NM_lep, NM_eqp, MN_eqp, MM_lt_tp, MM_lt_fp, MM_le_tp, MM_le_fp, MM_eq_tp, MM_eq_fp, N_cl, N_in_t, N_in_f, M_in, N_div, N_rem, N_nb0, N_nb1, cond_true, cond_false, Bool.not_true, Bool.not_false, Bool.and_true, Bool.true_and, Bool.and_false, Bool.false_and, decide_true, decide_false, Option.bind_some, Option.bind_none, h4]
    rfl
theorem X_nset {x : wb_H} {k : Nat} (h4 : x.1 16 0 4 = nN k) (hk : k ≤ 103) (hk5 : 5 < k) : q_Reader_parseSetting sc x = q_Reader_fail sc x (nN 1) := by
  rw [q_Reader_parseSetting_eq]
  simp (disch := omega) only [L_0, L_1, L_2, L_3, L_4, L_5, L_6, L_7, L_8, L_9, L_10, L_11, L_12, L_13, L_14, L_15, L_16, L_17, L_18, L_19, L_20, L_21, L_22, L_23, L_24, L_25, L_26, L_27, L_28, L_29, L_30, L_31, L_32, L_33, L_34, L_35, L_40, L_41, L_42, L_43, L_44, L_45, L_47, L_48, L_50, L_53, L_57, L_59, L_60, L_61, L_63, L_64, L_97, L_100, L_101, L_102, L_103, L_122, L_130, L_216, L_255, L_364, L_400, L_402, L_420, L_728, L_768, L_999, L_1000, L_1093, L_1872, L_2000, L_9999, L_12345, L_252645135, L_858993459, L_1103515245, L_1431655765, Lm_1, Lm_2, Lm_8, N_zero, N_cast, N_add, N_mul, N_sub, N_addM, N_lt_tp, N_lt_fp, N_le_tp, N_le_fp, N_eq_tp, N_eq_fp, MN_ltp, MN_lep, NM_ltp, NM_lep, NM_eqp, MN_eqp, MM_lt_tp, MM_lt_fp, MM_le_tp, MM_le_fp, MM_eq_tp, MM_eq_fp, N_cl, N_in_t, N_in_f, M_in, N_div, N_rem, N_nb0, N_nb1, cond_true, cond_false, Bool.not_true, Bool.not_false, Bool.and_true, Bool.true_and, Bool.and_false, Bool.false_and, decide_true, decide_false, Option.bind_some, Option.bind_none, h4, bnd_some]
/-- one house more is told -/
theorem Top_house {p w n z y b : Nat} {x m x5 m5 : wb_H} (T : TopI q s kd pl vl p w n z y b x m) (hn : n < 6) (P : HabP q s kd pl vl (p + 1) w n z y b x m x5 m5) : ∃ p' w' z' y' b', p < p' ∧ TopI q s kd pl vl p' w' (n + 1) z' y' b' x5 (wb_iu (wb_lu m5 72 0 n (m5.2.1 70 0 (p + 1))) 73 0 s (nN (n + 1))) ∧ FX q x x5 ∧ FM s m (wb_iu (wb_lu m5 72 0 n (m5.2.1 70 0 (p + 1))) 73 0 s (nN (n + 1))) ∧ finH sc m5 (nN (p + 1)) = some (wb_iu (wb_lu m5 72 0 n (m5.2.1 70 0 (p + 1))) 73 0 s (nN (n + 1))) := by
  obtain ⟨H, c15, c73, n6, HR, SR, hb1, hb2⟩ := T
  obtain ⟨p', w', z', y', b', hkp, H5, e15, e73, B, hw, hz, hy, hb3, hb4, c48, k1, ok1, u, e, t, hu, he, ht, c49, c74, c50, c75, c51, c76, hc, hl⟩ := P
  have hs := H.1.2.2.1
  have k4 := ok1.1
  have v70 := (H5.1.2.2.2.2.2.1 (p + 1) ok1).2.2.2 (Or.inl k1)
  have fin := finH_live (sc := sc) (t := p + 1) (Lq_p H5).2.1 H5.1.2.2.2.2.2.2 hs e73 hn (by omega)
  have G : Fr [72, 73] m5 (wb_iu (wb_lu m5 72 0 n (m5.2.1 70 0 (p + 1))) 73 0 s (nN (n + 1))) := Fr_trans (Fr_lu rfl) (Fr_iu rfl)
  have M : FM s m5 (wb_iu (wb_lu m5 72 0 n (m5.2.1 70 0 (p + 1))) 73 0 s (nN (n + 1))) := FM_trans (FM_lu (Or.inl rfl)) (FM_iu (Or.inr (by unfold MSd; omega)))
  have d73 : (wb_iu (wb_lu m5 72 0 n (m5.2.1 70 0 (p + 1))) 73 0 s (nN (n + 1))).1 73 0 s = nN (n + 1) := iu_at
  have d72 : (wb_iu (wb_lu m5 72 0 n (m5.2.1 70 0 (p + 1))) 73 0 s (nN (n + 1))).2.1 72 0 n = m5.2.1 70 0 (p + 1) := by rw [wb_iu_2]; exact lu_at
  have d72i : ∀ i, i < n → (wb_iu (wb_lu m5 72 0 n (m5.2.1 70 0 (p + 1))) 73 0 s (nN (n + 1))).2.1 72 0 i = m5.2.1 72 0 i := fun i hi => by rw [wb_iu_2]; exact lu_ne (by omega)
  generalize wb_iu (wb_lu m5 72 0 n (m5.2.1 70 0 (p + 1))) 73 0 s (nN (n + 1)) = m6 at *
  have g79 : ∀ i t, 74 ≤ t → t ≤ 79 → m6.1 t 0 i = m5.1 t 0 i := by
    intro i t h1 h2
    rcases (show t = 74 ∨ t = 75 ∨ t = 76 ∨ t = 77 ∨ t = 78 ∨ t = 79 by omega) with r | r | r | r | r | r <;> subst r <;> exact Fr_i G (by rfl)
  refine ⟨p', w', z', y', b', by omega, ⟨Lq_fr (Fr_refl [] x5) G (FX_refl q x5) M rfl rfl H5, e15, d73, by omega, fun i hi => ?_, ?_, by omega, by omega⟩, B.1, FM_trans B.2.1 M, fin⟩
  · by_cases ei : i = n
    · subst ei
      refine ⟨u, e, t, hu, he, ht, c49, (g79 _ 74 (by decide) (by decide)).trans c74, c50, (g79 _ 75 (by decide) (by decide)).trans c75, c51, (g79 _ 76 (by decide) (by decide)).trans c76, c48.trans (v70.symm.trans d72.symm), fun w0 => ⟨(hc w0).1, (hc w0).2.1, fun t3 => ?_⟩, fun t6 => ?_⟩
      · obtain ⟨j, j1, j2, j3⟩ := (hc w0).2.2 t3
        exact ⟨j, j1, j2, (g79 _ 77 (by decide) (by decide)).trans j3⟩
      · obtain ⟨z1, b1, brs, t1, zf, d1, d2, d3, d4, d5, d6, d7, d8⟩ := hl t6
        exact ⟨z1, b1, brs, t1, zf, d1, (g79 _ 78 (by decide) (by decide)).trans d2, (g79 _ 79 (by decide) (by decide)).trans d3, LawC_keep (Kp_refl q z' x5) (Km_fr (e := y') G rfl) (Kb_fr (e := b') G rfl) (Nat.le_refl _) (by omega) (by omega) d4, Lst_keep (Kp_refl q z' x5) (Km_fr (e := y') G rfl) (Kb_fr (e := b') G rfl) (by omega) (Nat.le_refl _) (by omega) d5, d6, d7, d8⟩
    · have R1 := HouseR_keep (i := i) B hw (by omega) (Nat.le_refl _) (Nat.le_refl _) (Nat.le_refl _) (HR i (by omega))
      exact HouseR_le hz hy hb3 (HouseR_k2 (z := z) (y := y) (b := b) (Kp_refl q _ x5) (Km_fr G rfl) (Kb_fr G rfl) ⟨⟨rfl, rfl, rfl, rfl, rfl⟩, rfl⟩ ⟨fun t h1 h2 => g79 _ t h1 h2, d72i i (by omega)⟩ (fun e => e) (Nat.le_refl _) (Nat.le_refl _) (Nat.le_refl _) R1)
  · refine SetR_keep (x := x5) (m := m5) (fun k _ => rfl) (fun t h1 h2 => ?_) (fun e => e) (SetR_keep B.2.2.2.2.2.1.2 B.2.2.2.2.2.2.2 hw SR)
    rcases (show t = 80 ∨ t = 81 ∨ t = 82 ∨ t = 83 ∨ t = 84 by omega) with r | r | r | r | r <;> subst r <;> exact Fr_i G (by rfl)
theorem ls_loop {γ : Type} {KX : wb_H → Option γ} {Q : γ → (Int32 × wb_H) → Prop} {x0 m0 : wb_H} (kend : ∀ p w n z y b x m, TopI q s kd pl vl p w n z y b x m → kd p = 0 → FX q x0 x → FM s m0 m → Both (KX (endX x)) (finM sc m) Q) (kdead : ∀ x m, DdE q s x0 m0 x m → Both (KX x) (finM sc m) Q) : ∀ f p w n z y b i x m, 401 ≤ p + f → i ≤ p → FX q x0 x → FM s m0 m → TopI q s kd pl vl p w n z y b x m → Both ((q_Reader_parse_L55 sc x (nN i)).bind KX) (q_M_read_L107 sc m) Q := by
  intro f
  induction f with
  | zero =>
    intro p w n z y b i x m hf hi X0 M0 T
    exfalso
    have := (Lq_p T.1).1
    omega
  | succ f ih =>
    intro p w n z y b i x m hf hi X0 M0 T
    have T' := T
    obtain ⟨H, c15, c73, n6, HR, SR, hb1, hb2⟩ := T'
    obtain ⟨p4, m13, m11, x4, ok⟩ := Lq_p H
    have hq := H.1.2.1
    have hs := H.1.2.2.1
    have g1 : decide (0 < q + 1) = true := decide_eq_true (by omega)
    have g2 : decide (q < 2) = true := decide_eq_true hq
    have ts := H.1.1
    have tm := H.1.2.2.2.2.2.1
    have m2 := H.1.2.2.2.2.1
    have h19 := H.1.2.2.2.2.2.2
    have m67 := (tm p ok).1
    have kl := kap_le (ts.1 p)
    obtain ⟨kb1, kb2⟩ := okB_of (ts.1 p)
    obtain ⟨x8, ww, yy, lm⟩ : x.1 16 0 8 = nN 0 ∧ ∃ ww yy, LvM p ww yy m := by
      obtain ⟨y, hy, o, w5, y2, lx, lm⟩ := H.2.1
      exact ⟨lx.2.2.1, _, _, lm⟩
    have is0 := M_is (sc := sc) ts tm ok lm (show 0 ≤ 100 by decide)
    -- what follows a line
    have next : ∀ x' m', ((FX q x0 x' ∧ FM s m0 m' ∧ ∃ p' w' n' z' y' b', p < p' ∧ TopI q s kd pl vl p' w' n' z' y' b' x' m') ∨ DdE q s x0 m0 x' m') → Both ((q_Reader_parse_L55 sc x' (nN (i + 1))).bind KX) (q_M_read_L107 sc m') Q := by
      intro x' m' h
      rcases h with ⟨X1, M1, p', w', n', z', y', b', hp, T1⟩ | D
      · exact ih p' w' n' z' y' b' (i + 1) x' m' (by omega) (by omega) X1 M1 T1
      · have D' := D
        obtain ⟨X1, M1, f1, e1, he1, D1, D2⟩ := D'
        rw [xD_L55 D1, mD_L107 D2]
        exact kdead x' m' D
    by_cases z0 : kd p = 0
    · rw [if_pos z0] at is0
      have k103 : nN (kap (kd p)) = nN 103 := by rw [z0]; rfl
      rw [q_Reader_parse_L55_eq, L107_e]
      simp (disch := omega) only [L_0, L_1, L_2, L_3, L_4, L_5, L_6, L_7, L_8, L_9, L_10, L_11, L_12, L_13, L_14, L_15, L_16, L_17, L_18, L_19, L_20, L_21, L_22, L_23, L_24, L_25, L_26, L_27, L_28, L_29, L_30, L_31, L_32, L_33, L_34, L_35, L_40, L_41, L_42, L_43, L_44, L_45, L_47, L_48, L_50, L_53, L_57, L_59, L_60, L_61, L_63, L_64, L_97, L_100, L_101, L_102, L_103, L_122, L_130, L_216, L_255, L_364, L_400, L_402, L_420, L_728, L_768, L_999, L_1000, L_1093, L_1872, L_2000, L_9999, L_12345, L_252645135, L_858993459, L_1103515245, L_1431655765, Lm_1, Lm_2, Lm_8, N_zero, N_cast, N_add, N_mul, N_sub, N_addM, N_lt_tp, N_lt_fp, N_le_tp, N_le_fp, N_eq_tp, N_eq_fp, MN_ltp, MN_lep, NM_ltp, NM_lep, NM_eqp, MN_eqp, MM_lt_tp, MM_lt_fp, MM_le_tp, MM_le_fp, MM_eq_tp, MM_eq_fp, N_cl, N_in_t, N_in_f, M_in, N_div, N_rem, N_nb0, N_nb1, cond_true, cond_false, Bool.not_true, Bool.not_false, Bool.and_true, Bool.true_and, Bool.and_false, Bool.false_and, decide_true, decide_false, Option.bind_some, Option.bind_none, x8, x4, k103, m13, is0]
      have go := kend p w n z y b x m T z0 X0 M0
      unfold endX at go
      by_cases y6 : x.1 16 0 6 = nN 0
      · simp only [eq_true y6, cond_true, cond_false, Bool.not_true, Bool.not_false, Bool.and_true, Bool.true_and, Bool.and_false, Bool.false_and, decide_true, decide_false, Option.bind_some, Option.bind_none] at go ⊢
        exact go
      · simp only [eq_false y6, cond_true, cond_false, Bool.not_true, Bool.not_false, Bool.and_true, Bool.true_and, Bool.and_false, Bool.false_and, decide_true, decide_false, Option.bind_some, Option.bind_none, iu_ne (show 7 ≠ 8 by decide)] at go ⊢
        exact go
    · rw [if_neg z0] at is0
      have n103 := kap_t4 _ kb2 kb1 z0
      have mq : q_M_read_L107 sc m = (q_M_tellOne sc m).bind fun h => q_M_read_L107 sc h := by
        rw [L107_e]
        simp (disch := omega) only [L_0, L_1, L_2, L_3, L_4, L_5, L_6, L_7, L_8, L_9, L_10, L_11, L_12, L_13, L_14, L_15, L_16, L_17, L_18, L_19, L_20, L_21, L_22, L_23, L_24, L_25, L_26, L_27, L_28, L_29, L_30, L_31, L_32, L_33, L_34, L_35, L_40, L_41, L_42, L_43, L_44, L_45, L_47, L_48, L_50, L_53, L_57, L_59, L_60, L_61, L_63, L_64, L_97, L_100, L_101, L_102, L_103, L_122, L_130, L_216, L_255, L_364, L_400, L_402, L_420, L_728, L_768, L_999, L_1000, L_1093, L_1872, L_2000, L_9999, L_12345, L_252645135, L_858993459, L_1103515245, L_1431655765, Lm_1, Lm_2, Lm_8, N_zero, N_cast, N_add, N_mul, N_sub, N_addM, N_lt_tp, N_lt_fp, N_le_tp, N_le_fp, N_eq_tp, N_eq_fp, MN_ltp, MN_lep, NM_ltp, NM_lep, NM_eqp, MN_eqp, MM_lt_tp, MM_lt_fp, MM_le_tp, MM_le_fp, MM_eq_tp, MM_eq_fp, N_cl, N_in_t, N_in_f, M_in, N_div, N_rem, N_nb0, N_nb1, cond_true, cond_false, Bool.not_true, Bool.not_false, Bool.and_true, Bool.true_and, Bool.and_false, Bool.false_and, decide_true, decide_false, Option.bind_some, Option.bind_none, m13, is0]
      rw [mq]
      by_cases z20 : kd p = 20
      · have k0 : nN (kap (kd p)) = nN 0 := by rw [z20]; rfl
        by_cases n5 : n = 6
        · subst n5
          obtain ⟨x1, ex1, m1, em1, F, G, D⟩ := ls_fail (sc := sc) H.1 H.2.1 (n := 2) (by decide) (by decide)
          have D' := D
          obtain ⟨f1, e1, he1, D1, D2⟩ := D'
          rw [tell_full m11 p4 (by rw [m67, z20]) h19 hs c73 em1 D2]
          have eX : (q_Reader_parse_L55 sc x (nN i)).bind KX = (q_Reader_parse_L55 sc x1 (nN (i + 1))).bind KX := by
            rw [q_Reader_parse_L55_eq]
            simp (disch := omega) only [L_0, L_1, L_2, L_3, L_4, L_5, L_6, L_7, L_8, L_9, L_10, L_11, L_12, L_13, L_14, L_15, L_16, L_17, L_18, L_19, L_20, L_21, L_22, L_23, L_24, L_25, L_26, L_27, L_28, L_29, L_30, L_31, L_32, L_33, L_34, L_35, L_40, L_41, L_42, L_43, L_44, L_45, L_47, L_48, L_50, L_53, L_57, L_59, L_60, L_61, L_63, L_64, L_97, L_100, L_101, L_102, L_103, L_122, L_130, L_216, L_255, L_364, L_400, L_402, L_420, L_728, L_768, L_999, L_1000, L_1093, L_1872, L_2000, L_9999, L_12345, L_252645135, L_858993459, L_1103515245, L_1431655765, Lm_1, Lm_2, Lm_8, N_zero, N_cast, N_add, N_mul, N_sub, N_addM, N_lt_tp, N_lt_fp, N_le_tp, N_le_fp, N_eq_tp, N_eq_fp, MN_ltp, MN_lep, NM_ltp, NM_lep, NM_eqp, MN_eqp, MM_lt_tp, MM_lt_fp, MM_le_tp, MM_le_fp, MM_eq_tp, MM_eq_fp, N_cl, N_in_t, N_in_f, M_in, N_div, N_rem, N_nb0, N_nb1, cond_true, cond_false, Bool.not_true, Bool.not_false, Bool.and_true, Bool.true_and, Bool.and_false, Bool.false_and, decide_true, decide_false, Option.bind_some, Option.bind_none, x8, x4, k0, m2, g1, g2, Nat.add_sub_cancel, c15, ex1, dX_take D1]
          rw [eX]
          exact next x1 m1 (Or.inr ⟨FX_trans X0 (FX_fr F rfl), FM_trans M0 (FM_fr G rfl), f1, e1, he1, D1, D2⟩)
        · rw [tell_house m11 p4 (by rw [m67, z20]) h19 hs c73 (by omega) m13]
          have eX : (q_Reader_parse_L55 sc x (nN i)).bind KX = ((q_Reader_parseHouse sc x (nN n)).bind (hbX sc)).bind fun h5 => (q_Reader_parse_L55 sc h5 (nN (i + 1))).bind KX := by
            rw [q_Reader_parse_L55_eq]
            simp (disch := omega) only [L_0, L_1, L_2, L_3, L_4, L_5, L_6, L_7, L_8, L_9, L_10, L_11, L_12, L_13, L_14, L_15, L_16, L_17, L_18, L_19, L_20, L_21, L_22, L_23, L_24, L_25, L_26, L_27, L_28, L_29, L_30, L_31, L_32, L_33, L_34, L_35, L_40, L_41, L_42, L_43, L_44, L_45, L_47, L_48, L_50, L_53, L_57, L_59, L_60, L_61, L_63, L_64, L_97, L_100, L_101, L_102, L_103, L_122, L_130, L_216, L_255, L_364, L_400, L_402, L_420, L_728, L_768, L_999, L_1000, L_1093, L_1872, L_2000, L_9999, L_12345, L_252645135, L_858993459, L_1103515245, L_1431655765, Lm_1, Lm_2, Lm_8, N_zero, N_cast, N_add, N_mul, N_sub, N_addM, N_lt_tp, N_lt_fp, N_le_tp, N_le_fp, N_eq_tp, N_eq_fp, MN_ltp, MN_lep, NM_ltp, NM_lep, NM_eqp, MN_eqp, MM_lt_tp, MM_lt_fp, MM_le_tp, MM_le_fp, MM_eq_tp, MM_eq_fp, N_cl, N_in_t, N_in_f, M_in, N_div, N_rem, N_nb0, N_nb1, cond_true, cond_false, Bool.not_true, Bool.not_false, Bool.and_true, Bool.true_and, Bool.and_false, Bool.false_and, decide_true, decide_false, Option.bind_some, Option.bind_none, x8, x4, k0, m2, g1, g2, Nat.add_sub_cancel, c15]
            unfold hbX semX
            simp only [cond_bnd, Option.bind_assoc]
          rw [eX]
          refine Both_bind (P := fun x' m' => (FX q x0 x' ∧ FM s m0 m' ∧ ∃ p' w' n' z' y' b', p < p' ∧ TopI q s kd pl vl p' w' n' z' y' b' x' m') ∨ DdE q s x0 m0 x' m') (ls_house (w := w) H z20 (by omega) c15 c73 (fun i hi => (HR i hi).choose_spec.choose_spec.choose_spec.2.2.2.2.2.2.2.2.2.1) ?_) next
          intro x' m' t A
          have hm2 : x'.2.2 16 0 2 = q + 1 := by
            rcases A with ⟨A, -⟩ | ⟨A, -⟩
            · obtain ⟨p1, w1, u, e, -, L1, -⟩ := A
              exact L1.1.2.2.2.2.1
            · exact (Dd_m2 A).2
          have h15 : x'.1 15 q 0 = nN n := by
            rcases A with ⟨A, -⟩ | ⟨-, A⟩
            · obtain ⟨p1, w1, u, e, -, L1, B1, a1, a2, a3, a4, a5, a6, a7, a8, a9, a10, a11, a12⟩ := A
              exact a11
            · exact A
          unfold hbX
          simp only [hm2, g1, g2, Nat.add_sub_cancel, cond_true, h15]
          rcases A with ⟨A, et⟩ | ⟨A, -⟩
          · have hb := ls_habit (sc := sc) (show n < 6 by omega) hb1 (by omega) (fun i hi => (HR i hi).choose_spec.choose_spec.choose_spec.2.2.2.2.2.2.2.2.2.1) (Or.inl A)
            have step := Both_bind (f := fun a => some a) (g := fun h => finH sc h t) (Q := fun x' m' => (FX q x0 x' ∧ FM s m0 m' ∧ ∃ p' w' n' z' y' b', p < p' ∧ TopI q s kd pl vl p' w' n' z' y' b' x' m') ∨ DdE q s x0 m0 x' m') hb (by
              rintro x5 m5 (h | h)
              · rw [et]
                obtain ⟨p', w', z', y', b', hp, T1, X1, M1, ef⟩ := Top_house (sc := sc) T (show n < 6 by omega) h
                rw [ef]
                exact Both_some (Or.inl ⟨FX_trans X0 X1, FM_trans M0 M1, p', w', n + 1, z', y', b', hp, T1⟩)
              · obtain ⟨X1, M1, f1, e1, he1, D1, D2⟩ := h
                rw [finH_dead D2]
                exact Both_some (Or.inr ⟨FX_trans X0 X1, FM_trans M0 M1, f1, e1, he1, D1, D2⟩))
            rw [bnd_some] at step
            exact step
          · obtain ⟨X1, M1, ⟨f1, e1, he1, D1, D2⟩, hb⟩ := A
            obtain ⟨x5, ex5, Q5⟩ := dq_habit (sc := sc) D1 (show n < 6 by omega)
            obtain ⟨x6, ex6, X6, D6⟩ := semX_dead (sc := sc) hq Q5.2.2.2.2.1 Q5.2.2.2.1
            rw [mD_habit D2, ex5]
            simp only [Option.bind_some]
            rw [ex6, finH_dead D2]
            exact Both_some (Or.inr ⟨FX_trans X0 (FX_trans X1 (FX_trans Q5.2.1 X6)), FM_trans M0 M1, f1, e1, he1, D6, D2⟩)
      · have n0 := kap_t1 _ kb2 kb1 z20
        have k3 := kap_t3 _ kb2 kb1
        simp only [Bool.or_eq_true, Bool.and_eq_true, Nat.ble_eq, Nat.beq_eq, Nat.blt_eq] at k3
        have nz : ¬ (nN (kap (kd p)) = nN 0) := fun e => n0 (N_inj (by omega) (by decide) e)
        by_cases z27 : 27 ≤ kd p ∧ kd p ≤ 31
        · obtain ⟨j, ej⟩ : ∃ j, kd p = 27 + j := ⟨kd p - 27, by omega⟩
          have kj : kap (kd p) = 1 + j := by rw [kap_t2 _ (by omega) z27.1]; omega
          have xs := X_set (sc := sc) (q := q) (by rw [x4, kj]) (show j < 5 by omega)
          rw [tell_set m11 p4 (by rw [m67, ej]) (by omega) h19 hs]
          have eX : (q_Reader_parse_L55 sc x (nN i)).bind KX = (((q_Reader_take sc x (nN (kap (kd p)))).bind (setX sc q j)).bind fun h6 => q_Reader_take sc h6 (nN 59)).bind fun h5 => (q_Reader_parse_L55 sc h5 (nN (i + 1))).bind KX := by
            rw [q_Reader_parse_L55_eq, xs, kj]
            simp (disch := omega) only [L_0, L_1, L_2, L_3, L_4, L_5, L_6, L_7, L_8, L_9, L_10, L_11, L_12, L_13, L_14, L_15, L_16, L_17, L_18, L_19, L_20, L_21, L_22, L_23, L_24, L_25, L_26, L_27, L_28, L_29, L_30, L_31, L_32, L_33, L_34, L_35, L_40, L_41, L_42, L_43, L_44, L_45, L_47, L_48, L_50, L_53, L_57, L_59, L_60, L_61, L_63, L_64, L_97, L_100, L_101, L_102, L_103, L_122, L_130, L_216, L_255, L_364, L_400, L_402, L_420, L_728, L_768, L_999, L_1000, L_1093, L_1872, L_2000, L_9999, L_12345, L_252645135, L_858993459, L_1103515245, L_1431655765, Lm_1, Lm_2, Lm_8, N_zero, N_cast, N_add, N_mul, N_sub, N_addM, N_lt_tp, N_lt_fp, N_le_tp, N_le_fp, N_eq_tp, N_eq_fp, MN_ltp, MN_lep, NM_ltp, NM_lep, NM_eqp, MN_eqp, MM_lt_tp, MM_lt_fp, MM_le_tp, MM_le_fp, MM_eq_tp, MM_eq_fp, N_cl, N_in_t, N_in_f, M_in, N_div, N_rem, N_nb0, N_nb1, cond_true, cond_false, Bool.not_true, Bool.not_false, Bool.and_true, Bool.true_and, Bool.and_false, Bool.false_and, decide_true, decide_false, Option.bind_some, Option.bind_none, x8, x4, kj, Option.bind_assoc]
          rw [eX]
          refine Both_bind (Both_w (ls_set X0 M0 (show j < 5 by omega) T ej) ?_) next
          rintro x' m' (⟨X1, M1, p', w', hp, T1⟩ | D)
          · exact Or.inl ⟨X1, M1, p', w', n, z, y, b, hp, T1⟩
          · exact Or.inr D
        · have k5 : 5 < kap (kd p) := by omega
          have xs := X_nset (sc := sc) x4 (by omega) k5
          rw [tell_bad m11 p4 m67 kb2 z20 z27]
          obtain ⟨x1, ex1, m1, em1, F, G, D⟩ := ls_fail (sc := sc) H.1 H.2.1 (n := 1) (by decide) (by decide)
          have D' := D
          obtain ⟨f1, e1, he1, D1, D2⟩ := D'
          rw [em1]
          have eX : (q_Reader_parse_L55 sc x (nN i)).bind KX = (q_Reader_parse_L55 sc x1 (nN (i + 1))).bind KX := by
            rw [q_Reader_parse_L55_eq, xs, ex1]
            simp (disch := omega) only [L_0, L_1, L_2, L_3, L_4, L_5, L_6, L_7, L_8, L_9, L_10, L_11, L_12, L_13, L_14, L_15, L_16, L_17, L_18, L_19, L_20, L_21, L_22, L_23, L_24, L_25, L_26, L_27, L_28, L_29, L_30, L_31, L_32, L_33, L_34, L_35, L_40, L_41, L_42, L_43, L_44, L_45, L_47, L_48, L_50, L_53, L_57, L_59, L_60, L_61, L_63, L_64, L_97, L_100, L_101, L_102, L_103, L_122, L_130, L_216, L_255, L_364, L_400, L_402, L_420, L_728, L_768, L_999, L_1000, L_1093, L_1872, L_2000, L_9999, L_12345, L_252645135, L_858993459, L_1103515245, L_1431655765, Lm_1, Lm_2, Lm_8, N_zero, N_cast, N_add, N_mul, N_sub, N_addM, N_lt_tp, N_lt_fp, N_le_tp, N_le_fp, N_eq_tp, N_eq_fp, MN_ltp, MN_lep, NM_ltp, NM_lep, NM_eqp, MN_eqp, MM_lt_tp, MM_lt_fp, MM_le_tp, MM_le_fp, MM_eq_tp, MM_eq_fp, N_cl, N_in_t, N_in_f, M_in, N_div, N_rem, N_nb0, N_nb1, cond_true, cond_false, Bool.not_true, Bool.not_false, Bool.and_true, Bool.true_and, Bool.and_false, Bool.false_and, decide_true, decide_false, Option.bind_some, Option.bind_none, x8, x4, dX_take D1]
          rw [eX]
          exact next x1 m1 (Or.inr ⟨FX_trans X0 (FX_fr F rfl), FM_trans M0 (FM_fr G rfl), f1, e1, he1, D1, D2⟩)
end
