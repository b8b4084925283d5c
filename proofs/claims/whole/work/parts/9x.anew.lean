/-! All begins anew, on both sides. -/
section
variable {sc : wb_X}
theorem fill54_L {o : Nat} (ho : o < 44) {v : Int32} : ∀ k j, j + k = 30 → ∀ h, q_JArrays_fill2_54_L5 sc h o v (nN j) (nN 30) = some (wb_fi h 54 o j 30 (fun _ => v)) := by
  have g : decide (o < 44) = true := decide_eq_true ho
  intro k
  induction k with
  | zero =>
    intro j hj h
    rw [q_JArrays_fill2_54_L5_eq, wb_fi_nil (by omega)]
    simp (disch := omega) only [L_0, L_1, L_2, L_3, L_4, L_5, L_6, L_7, L_8, L_9, L_10, L_11, L_12, L_13, L_14, L_15, L_16, L_17, L_18, L_19, L_20, L_21, L_22, L_23, L_24, L_25, L_26, L_27, L_28, L_29, L_30, L_31, L_32, L_33, L_34, L_35, L_40, L_41, L_42, L_43, L_44, L_45, L_47, L_48, L_50, L_53, L_57, L_59, L_60, L_61, L_63, L_64, L_97, L_100, L_101, L_102, L_103, L_122, L_130, L_216, L_255, L_364, L_400, L_402, L_420, L_728, L_768, L_999, L_1000, L_1093, L_1872, L_2000, L_9999, L_12345, L_252645135, L_858993459, L_1103515245, L_1431655765, Lm_1, Lm_2, Lm_8, N_zero, N_cast, N_add, N_mul, N_sub, N_addM, N_lt_tp, N_lt_fp, N_le_tp, N_le_fp, N_eq_tp, N_eq_fp, MN_ltp, MN_lep, NM_ltp, NM_lep, NM_eqp, MN_eqp, MM_lt_tp, MM_lt_fp, MM_le_tp, MM_le_fp, MM_eq_tp, MM_eq_fp, N_cl, N_in_t, N_in_f, M_in, N_div, N_rem, N_nb0, N_nb1, cond_true, cond_false, Bool.not_true, Bool.not_false, Bool.and_true, Bool.true_and, Bool.and_false, Bool.false_and, decide_true, decide_false, Option.bind_some, Option.bind_none]
  | succ k ih =>
    intro j hj h
    rw [q_JArrays_fill2_54_L5_eq, ← wb_fi_step (by omega)]
    simp (disch := omega) only [L_0, L_1, L_2, L_3, L_4, L_5, L_6, L_7, L_8, L_9, L_10, L_11, L_12, L_13, L_14, L_15, L_16, L_17, L_18, L_19, L_20, L_21, L_22, L_23, L_24, L_25, L_26, L_27, L_28, L_29, L_30, L_31, L_32, L_33, L_34, L_35, L_40, L_41, L_42, L_43, L_44, L_45, L_47, L_48, L_50, L_53, L_57, L_59, L_60, L_61, L_63, L_64, L_97, L_100, L_101, L_102, L_103, L_122, L_130, L_216, L_255, L_364, L_400, L_402, L_420, L_728, L_768, L_999, L_1000, L_1093, L_1872, L_2000, L_9999, L_12345, L_252645135, L_858993459, L_1103515245, L_1431655765, Lm_1, Lm_2, Lm_8, N_zero, N_cast, N_add, N_mul, N_sub, N_addM, N_lt_tp, N_lt_fp, N_le_tp, N_le_fp, N_eq_tp, N_eq_fp, MN_ltp, MN_lep, NM_ltp, NM_lep, NM_eqp, MN_eqp, MM_lt_tp, MM_lt_fp, MM_le_tp, MM_le_fp, MM_eq_tp, MM_eq_fp, N_cl, N_in_t, N_in_f, M_in, N_div, N_rem, N_nb0, N_nb1, cond_true, cond_false, Bool.not_true, Bool.not_false, Bool.and_true, Bool.true_and, Bool.and_false, Bool.false_and, decide_true, decide_false, Option.bind_some, Option.bind_none, g]
    exact ih (j + 1) (by omega) _
def NewX (h h' : wb_H) : Prop := (∀ i, i < 6 → h'.1 54 0 i = nN i ∧ h'.1 54 0 (6 + i) = nM 1 ∧ h'.1 54 0 (24 + i) = nN 0) ∧ h'.1 17 0 1 = nN 0 ∧ h'.1 17 0 2 = nN 0 ∧ h'.1 17 0 3 = nN 0 ∧ h'.1 17 0 4 = nN 0 ∧ h'.1 17 0 5 = h.1 17 0 5
theorem X_stclear {h : wb_H} : Ok (q_Standing_clear sc h 0) (fun h' => Fr [17, 54] h h' ∧ NewX h h') := by
  have g : decide (0 < 44) = true := rfl
  rw [q_Standing_clear_eq]
  simp only [g, cond_true, L_0, L_1, L_2, L_3, L_4, L_5, L_6, L_7, L_8, L_9, L_10, L_11, L_12, L_13, L_14, L_15, L_16, L_17, L_18, L_19, L_20, L_21, L_22, L_23, L_24, L_25, L_26, L_27, L_28, L_29, L_30, L_31, L_32, L_33, L_34, L_35, L_40, L_41, L_42, L_43, L_44, L_45, L_47, L_48, L_50, L_53, L_57, L_59, L_60, L_61, L_63, L_64, L_97, L_100, L_101, L_102, L_103, L_122, L_130, L_216, L_255, L_364, L_400, L_402, L_420, L_728, L_768, L_999, L_1000, L_1093, L_1872, L_2000, L_9999, L_12345, L_252645135, L_858993459, L_1103515245, L_1431655765, Lm_1, Lm_2, Lm_8]
  rw [q_JArrays_fill2_54_eq]
  simp only [g, cond_true, L_0, L_1, L_2, L_3, L_4, L_5, L_6, L_7, L_8, L_9, L_10, L_11, L_12, L_13, L_14, L_15, L_16, L_17, L_18, L_19, L_20, L_21, L_22, L_23, L_24, L_25, L_26, L_27, L_28, L_29, L_30, L_31, L_32, L_33, L_34, L_35, L_40, L_41, L_42, L_43, L_44, L_45, L_47, L_48, L_50, L_53, L_57, L_59, L_60, L_61, L_63, L_64, L_97, L_100, L_101, L_102, L_103, L_122, L_130, L_216, L_255, L_364, L_400, L_402, L_420, L_728, L_768, L_999, L_1000, L_1093, L_1872, L_2000, L_9999, L_12345, L_252645135, L_858993459, L_1103515245, L_1431655765, Lm_1, Lm_2, Lm_8]
  rw [fill54_L (by decide) 30 0 rfl]
  simp only [Option.bind_some]
  have F1 : Fr [17, 54] h (wb_fi (wb_iu (wb_iu (wb_iu (wb_iu h 17 0 1 (nN 0)) 17 0 2 (nN 0)) 17 0 3 (nN 0)) 17 0 4 (nN 0)) 54 0 0 30 (fun _ => nN 0)) := Fr_trans (Fr_trans (Fr_trans (Fr_trans (Fr_iu rfl) (Fr_iu rfl)) (Fr_iu rfl)) (Fr_iu rfl)) (Fr_fi (fun _ => rfl))
  have a1 : (wb_fi (wb_iu (wb_iu (wb_iu (wb_iu h 17 0 1 (nN 0)) 17 0 2 (nN 0)) 17 0 3 (nN 0)) 17 0 4 (nN 0)) 54 0 0 30 (fun _ => nN 0)).1 17 0 1 = nN 0 := by rw [fi_nt (by decide), iu_ne (by decide), iu_ne (by decide), iu_ne (by decide), iu_at]
  have a2 : (wb_fi (wb_iu (wb_iu (wb_iu (wb_iu h 17 0 1 (nN 0)) 17 0 2 (nN 0)) 17 0 3 (nN 0)) 17 0 4 (nN 0)) 54 0 0 30 (fun _ => nN 0)).1 17 0 2 = nN 0 := by rw [fi_nt (by decide), iu_ne (by decide), iu_ne (by decide), iu_at]
  have a3 : (wb_fi (wb_iu (wb_iu (wb_iu (wb_iu h 17 0 1 (nN 0)) 17 0 2 (nN 0)) 17 0 3 (nN 0)) 17 0 4 (nN 0)) 54 0 0 30 (fun _ => nN 0)).1 17 0 3 = nN 0 := by rw [fi_nt (by decide), iu_ne (by decide), iu_at]
  have a4 : (wb_fi (wb_iu (wb_iu (wb_iu (wb_iu h 17 0 1 (nN 0)) 17 0 2 (nN 0)) 17 0 3 (nN 0)) 17 0 4 (nN 0)) 54 0 0 30 (fun _ => nN 0)).1 17 0 4 = nN 0 := by rw [fi_nt (by decide), iu_at]
  have a5 : (wb_fi (wb_iu (wb_iu (wb_iu (wb_iu h 17 0 1 (nN 0)) 17 0 2 (nN 0)) 17 0 3 (nN 0)) 17 0 4 (nN 0)) 54 0 0 30 (fun _ => nN 0)).1 17 0 5 = h.1 17 0 5 := by rw [fi_nt (by decide), iu_ne (by decide), iu_ne (by decide), iu_ne (by decide), iu_ne (by decide)]
  have a54 : ∀ k, k < 30 → (wb_fi (wb_iu (wb_iu (wb_iu (wb_iu h 17 0 1 (nN 0)) 17 0 2 (nN 0)) 17 0 3 (nN 0)) 17 0 4 (nN 0)) 54 0 0 30 (fun _ => nN 0)).1 54 0 k = nN 0 := fun k hk => fi_in (Nat.zero_le _) hk
  generalize wb_fi (wb_iu (wb_iu (wb_iu (wb_iu h 17 0 1 (nN 0)) 17 0 2 (nN 0)) 17 0 3 (nN 0)) 17 0 4 (nN 0)) 54 0 0 30 (fun _ => nN 0) = h1 at *
  have key : ∀ k j h2, j + k = 6 → Fr [54] h1 h2 → (∀ i, i < j → h2.1 54 0 i = nN i ∧ h2.1 54 0 (6 + i) = nM 1) → (∀ i, 12 ≤ i → i < 30 → h2.1 54 0 i = nN 0) → Ok (q_Standing_clear_L30 sc h2 0 (nN j)) (fun h' => Fr [54] h1 h' ∧ (∀ i, i < 6 → h'.1 54 0 i = nN i ∧ h'.1 54 0 (6 + i) = nM 1) ∧ ∀ i, 12 ≤ i → i < 30 → h'.1 54 0 i = nN 0) := by
    intro k
    induction k with
    | zero =>
      intro j h2 hj F A Z
      rw [Nat.add_zero] at hj
      subst hj
      rw [q_Standing_clear_L30_eq]
      simp (disch := omega) only [L_0, L_1, L_2, L_3, L_4, L_5, L_6, L_7, L_8, L_9, L_10, L_11, L_12, L_13, L_14, L_15, L_16, L_17, L_18, L_19, L_20, L_21, L_22, L_23, L_24, L_25, L_26, L_27, L_28, L_29, L_30, L_31, L_32, L_33, L_34, L_35, L_40, L_41, L_42, L_43, L_44, L_45, L_47, L_48, L_50, L_53, L_57, L_59, L_60, L_61, L_63, L_64, L_97, L_100, L_101, L_102, L_103, L_122, L_130, L_216, L_255, L_364, L_400, L_402, L_420, L_728, L_768, L_999, L_1000, L_1093, L_1872, L_2000, L_9999, L_12345, L_252645135, L_858993459, L_1103515245, L_1431655765, Lm_1, Lm_2, Lm_8, N_zero, N_cast, N_add, N_mul, N_sub, N_addM, N_lt_tp, N_lt_fp, N_le_tp, N_le_fp, N_eq_tp, N_eq_fp, MN_ltp, MN_lep, NM_ltp, NM_lep, NM_eqp, MN_eqp, MM_lt_tp, MM_lt_fp, MM_le_tp, MM_le_fp, MM_eq_tp, MM_eq_fp, N_cl, N_in_t, N_in_f, M_in, N_div, N_rem, N_nb0, N_nb1, cond_true, cond_false, Bool.not_true, Bool.not_false, Bool.and_true, Bool.true_and, Bool.and_false, Bool.false_and, decide_true, decide_false, Option.bind_some, Option.bind_none]
      exact Ok_some ⟨F, A, Z⟩
    | succ k ih =>
      intro j h2 hj F A Z
      have sj : (nN 0 * nN 6) + nN j = nN j := by rw [N_mul, N_add]; congr 1; omega
      have sj2 : (nN 1 * nN 6) + nN j = nN (6 + j) := by rw [N_mul, N_add]
      rw [q_Standing_clear_L30_eq]
      simp (disch := omega) only [L_0, L_1, L_2, L_3, L_4, L_5, L_6, L_7, L_8, L_9, L_10, L_11, L_12, L_13, L_14, L_15, L_16, L_17, L_18, L_19, L_20, L_21, L_22, L_23, L_24, L_25, L_26, L_27, L_28, L_29, L_30, L_31, L_32, L_33, L_34, L_35, L_40, L_41, L_42, L_43, L_44, L_45, L_47, L_48, L_50, L_53, L_57, L_59, L_60, L_61, L_63, L_64, L_97, L_100, L_101, L_102, L_103, L_122, L_130, L_216, L_255, L_364, L_400, L_402, L_420, L_728, L_768, L_999, L_1000, L_1093, L_1872, L_2000, L_9999, L_12345, L_252645135, L_858993459, L_1103515245, L_1431655765, Lm_1, Lm_2, Lm_8, N_le_fp, cond_true, cond_false, Bool.not_true, Bool.not_false, Bool.and_true, Bool.true_and, Bool.and_false, Bool.false_and, decide_true, decide_false, Option.bind_some, Option.bind_none, g]
      rw [q_Standing_set_eq]
      simp (disch := omega) only [L_0, L_1, L_2, L_3, L_4, L_5, L_6, L_7, L_8, L_9, L_10, L_11, L_12, L_13, L_14, L_15, L_16, L_17, L_18, L_19, L_20, L_21, L_22, L_23, L_24, L_25, L_26, L_27, L_28, L_29, L_30, L_31, L_32, L_33, L_34, L_35, L_40, L_41, L_42, L_43, L_44, L_45, L_47, L_48, L_50, L_53, L_57, L_59, L_60, L_61, L_63, L_64, L_97, L_100, L_101, L_102, L_103, L_122, L_130, L_216, L_255, L_364, L_400, L_402, L_420, L_728, L_768, L_999, L_1000, L_1093, L_1872, L_2000, L_9999, L_12345, L_252645135, L_858993459, L_1103515245, L_1431655765, Lm_1, Lm_2, Lm_8, sj, N_in_t, N_cl, cond_true, cond_false, Bool.not_true, Bool.not_false, Bool.and_true, Bool.true_and, Bool.and_false, Bool.false_and, decide_true, decide_false, Option.bind_some, Option.bind_none, g]
      rw [q_Standing_set_eq]
      simp (disch := omega) only [L_0, L_1, L_2, L_3, L_4, L_5, L_6, L_7, L_8, L_9, L_10, L_11, L_12, L_13, L_14, L_15, L_16, L_17, L_18, L_19, L_20, L_21, L_22, L_23, L_24, L_25, L_26, L_27, L_28, L_29, L_30, L_31, L_32, L_33, L_34, L_35, L_40, L_41, L_42, L_43, L_44, L_45, L_47, L_48, L_50, L_53, L_57, L_59, L_60, L_61, L_63, L_64, L_97, L_100, L_101, L_102, L_103, L_122, L_130, L_216, L_255, L_364, L_400, L_402, L_420, L_728, L_768, L_999, L_1000, L_1093, L_1872, L_2000, L_9999, L_12345, L_252645135, L_858993459, L_1103515245, L_1431655765, Lm_1, Lm_2, Lm_8, sj2, N_in_t, N_cl, N_add, cond_true, cond_false, Bool.not_true, Bool.not_false, Bool.and_true, Bool.true_and, Bool.and_false, Bool.false_and, decide_true, decide_false, Option.bind_some, Option.bind_none, g]
      refine ih (j + 1) _ (by omega) (Fr_trans F (Fr_trans (Fr_iu rfl) (Fr_iu rfl))) (fun i hi => ?_) (fun i h1 h2 => ?_)
      · by_cases e : i = j
        · subst e
          exact ⟨by rw [iu_ne (by omega), iu_at], iu_at⟩
        · obtain ⟨b1, b2⟩ := A i (by omega)
          exact ⟨by rw [iu_ne (by omega), iu_ne (by omega)]; exact b1, by rw [iu_ne (by omega), iu_ne (by omega)]; exact b2⟩
      · rw [iu_ne (by omega), iu_ne (by omega)]
        exact Z i h1 h2
  refine Ok_w (key 6 0 h1 rfl (Fr_refl _ _) (fun i hi => absurd hi (Nat.not_lt_zero i)) (fun i _ h2 => a54 i h2)) ?_
  rintro h' ⟨F, A, Z⟩
  exact ⟨Fr_trans F1 (Fr_mono F rfl), fun i hi => ⟨(A i hi).1, (A i hi).2, Z _ (by omega) (by omega)⟩, (Fr_i F (by rfl)).trans a1, (Fr_i F (by rfl)).trans a2, (Fr_i F (by rfl)).trans a3, (Fr_i F (by rfl)).trans a4, (Fr_i F (by rfl)).trans a5⟩
theorem X_new {h : wb_H} : Ok (q_X_startAnew sc h) (fun h' => Fr [17, 54, 9002, 7005, 61, 62, 2014, 2015] h h' ∧ NewX h h' ∧ h'.1 14 0 2 = nN 0 ∧ h'.1 10 0 5 = nN 0 ∧ (∀ j, j < 3 → h'.1 61 0 j = nN 0) ∧ h'.1 20 0 15 = nN 0 ∧ h'.1 20 0 14 = nM 1 ∧ ∀ l, l < 64 → h'.1 62 0 l = nM 1) := by
  rw [q_X_startAnew_eq]
  refine Ok_bind X_stclear ?_
  rintro h1 ⟨F1, N1⟩
  rw [q_Past_clear_eq]
  simp only [Option.bind_some]
  rw [q_Diary_clear_eq]
  simp only [Option.bind_some, L_0, L_1, L_2, L_3, L_4, L_5, L_6, L_7, L_8, L_9, L_10, L_11, L_12, L_13, L_14, L_15, L_16, L_17, L_18, L_19, L_20, L_21, L_22, L_23, L_24, L_25, L_26, L_27, L_28, L_29, L_30, L_31, L_32, L_33, L_34, L_35, L_40, L_41, L_42, L_43, L_44, L_45, L_47, L_48, L_50, L_53, L_57, L_59, L_60, L_61, L_63, L_64, L_97, L_100, L_101, L_102, L_103, L_122, L_130, L_216, L_255, L_364, L_400, L_402, L_420, L_728, L_768, L_999, L_1000, L_1093, L_1872, L_2000, L_9999, L_12345, L_252645135, L_858993459, L_1103515245, L_1431655765, Lm_1, Lm_2, Lm_8]
  have F2 : Fr [9002, 7005] h1 (wb_iu (wb_iu h1 14 0 2 (nN 0)) 10 0 5 (nN 0)) := Fr_trans (Fr_iu rfl) (Fr_iu rfl)
  have c14 : (wb_iu (wb_iu h1 14 0 2 (nN 0)) 10 0 5 (nN 0)).1 14 0 2 = nN 0 := by rw [iu_nt (by decide), iu_at]
  have c10 : (wb_iu (wb_iu h1 14 0 2 (nN 0)) 10 0 5 (nN 0)).1 10 0 5 = nN 0 := iu_at
  generalize wb_iu (wb_iu h1 14 0 2 (nN 0)) 10 0 5 (nN 0) = h2 at *
  have key : ∀ k j h3, j + k = 3 → Fr [61] h2 h3 → (∀ i, i < j → h3.1 61 0 i = nN 0) → Ok (q_X_startAnew_L23 sc h3 (nN j)) (fun h' => Fr [61, 62, 2014, 2015] h2 h' ∧ (∀ i, i < 3 → h'.1 61 0 i = nN 0) ∧ h'.1 20 0 15 = nN 0 ∧ h'.1 20 0 14 = nM 1 ∧ ∀ l, l < 64 → h'.1 62 0 l = nM 1) := by
    intro k
    induction k with
    | zero =>
      intro j h3 hj F A
      rw [Nat.add_zero] at hj
      subst hj
      rw [q_X_startAnew_L23_eq]
      simp (disch := omega) only [L_0, L_1, L_2, L_3, L_4, L_5, L_6, L_7, L_8, L_9, L_10, L_11, L_12, L_13, L_14, L_15, L_16, L_17, L_18, L_19, L_20, L_21, L_22, L_23, L_24, L_25, L_26, L_27, L_28, L_29, L_30, L_31, L_32, L_33, L_34, L_35, L_40, L_41, L_42, L_43, L_44, L_45, L_47, L_48, L_50, L_53, L_57, L_59, L_60, L_61, L_63, L_64, L_97, L_100, L_101, L_102, L_103, L_122, L_130, L_216, L_255, L_364, L_400, L_402, L_420, L_728, L_768, L_999, L_1000, L_1093, L_1872, L_2000, L_9999, L_12345, L_252645135, L_858993459, L_1103515245, L_1431655765, Lm_1, Lm_2, Lm_8, N_zero, N_cast, N_add, N_mul, N_sub, N_addM, N_lt_tp, N_lt_fp, N_le_tp, N_le_fp, N_eq_tp, N_eq_fp, MN_ltp, MN_lep, NM_ltp, NM_lep, NM_eqp, MN_eqp, MM_lt_tp, MM_lt_fp, MM_le_tp, MM_le_fp, MM_eq_tp, MM_eq_fp, N_cl, N_in_t, N_in_f, M_in, N_div, N_rem, N_nb0, N_nb1, cond_true, cond_false, Bool.not_true, Bool.not_false, Bool.and_true, Bool.true_and, Bool.and_false, Bool.false_and, decide_true, decide_false, Option.bind_some, Option.bind_none]
      refine Ok_bind X_forgetA ?_
      rintro h4 ⟨F4, a, b, c⟩
      exact Ok_some ⟨Fr_trans (Fr_mono F rfl) (Fr_mono F4 rfl), fun i hi => (Fr_i F4 (by rfl)).trans (A i hi), a, b, c⟩
    | succ k ih =>
      intro j h3 hj F A
      rw [q_X_startAnew_L23_eq]
      simp (disch := omega) only [L_0, L_1, L_2, L_3, L_4, L_5, L_6, L_7, L_8, L_9, L_10, L_11, L_12, L_13, L_14, L_15, L_16, L_17, L_18, L_19, L_20, L_21, L_22, L_23, L_24, L_25, L_26, L_27, L_28, L_29, L_30, L_31, L_32, L_33, L_34, L_35, L_40, L_41, L_42, L_43, L_44, L_45, L_47, L_48, L_50, L_53, L_57, L_59, L_60, L_61, L_63, L_64, L_97, L_100, L_101, L_102, L_103, L_122, L_130, L_216, L_255, L_364, L_400, L_402, L_420, L_728, L_768, L_999, L_1000, L_1093, L_1872, L_2000, L_9999, L_12345, L_252645135, L_858993459, L_1103515245, L_1431655765, Lm_1, Lm_2, Lm_8, N_zero, N_cast, N_add, N_mul, N_sub, N_addM, N_lt_tp, N_lt_fp, N_le_tp, N_le_fp, N_eq_tp, N_eq_fp, MN_ltp, MN_lep, NM_ltp, NM_lep, NM_eqp, MN_eqp, MM_lt_tp, MM_lt_fp, MM_le_tp, MM_le_fp, MM_eq_tp, MM_eq_fp, N_cl, N_in_t, N_in_f, M_in, N_div, N_rem, N_nb0, N_nb1, cond_true, cond_false, Bool.not_true, Bool.not_false, Bool.and_true, Bool.true_and, Bool.and_false, Bool.false_and, decide_true, decide_false, Option.bind_some, Option.bind_none]
      refine ih (j + 1) _ (by omega) (Fr_trans F (Fr_iu rfl)) (fun i hi => ?_)
      by_cases e : i = j
      · subst e
        exact iu_at
      · rw [iu_ne e]
        exact A i (by omega)
  refine Ok_w (key 3 0 h2 rfl (Fr_refl _ _) (fun i hi => absurd hi (Nat.not_lt_zero i))) ?_
  rintro h' ⟨F3, a, b, c, d⟩
  have F23 : Fr [61, 62, 2014, 2015, 7005, 9002] h1 h' := Fr_trans (Fr_mono F2 rfl) (Fr_mono F3 rfl)
  obtain ⟨n1, n2, n3, n4, n5, n6⟩ := N1
  refine ⟨Fr_trans (Fr_mono F1 rfl) (Fr_mono F23 rfl), ⟨fun i hi => ?_, (Fr_i F23 (by rfl)).trans n2, (Fr_i F23 (by rfl)).trans n3, (Fr_i F23 (by rfl)).trans n4, (Fr_i F23 (by rfl)).trans n5, (Fr_i F23 (by rfl)).trans n6⟩, (Fr_i F3 (by rfl)).trans c14, (Fr_i F3 (by rfl)).trans c10, a, b, c, d⟩
  obtain ⟨m1, m2, m3⟩ := n1 i hi
  exact ⟨(Fr_i F23 (by rfl)).trans m1, (Fr_i F23 (by rfl)).trans m2, (Fr_i F23 (by rfl)).trans m3⟩
def NewM (h' : wb_H) : Prop := (∀ i, i < 6 → h'.1 95 0 i = nN i ∧ h'.1 95 0 (6 + i) = nM 1 ∧ h'.1 95 0 (20 + i) = nM 2 ∧ h'.1 95 0 (26 + i) = nM 2 ∧ h'.1 95 0 (32 + i) = nN 0) ∧ ∀ k, 12 ≤ k → k < 20 → h'.1 95 0 k = nN 0
theorem M_begins {h : wb_H} {s : Nat} (h18 : h.1 21 0 18 = nN s) (hs : s < 2) : Ok (q_M_begins sc h) (fun h' => Fr [96, 1049, 1050] h h' ∧ (∀ i, i < 6 → h'.1 96 0 i = nN i ∧ h'.1 96 0 (6 + i) = nM 1 ∧ h'.1 96 0 (20 + i) = nM 2 ∧ h'.1 96 0 (26 + i) = nM 2 ∧ h'.1 96 0 (32 + i) = nN 0) ∧ ∀ k, 12 ≤ k → k < 20 → h'.1 96 0 k = nN 0) := by
  have second : ∀ k j h2, j + k = 6 → Fr [96] h h2 → (∀ i, i < j → h2.1 96 0 i = nN i ∧ h2.1 96 0 (6 + i) = nM 1 ∧ h2.1 96 0 (20 + i) = nM 2 ∧ h2.1 96 0 (26 + i) = nM 2) → (∀ i, i < 48 → (12 ≤ i ∧ i < 20) ∨ 32 ≤ i → h2.1 96 0 i = nN 0) → Ok (q_M_begins_L23 sc h2 (nN j)) (fun h' => Fr [96, 1049, 1050] h h' ∧ (∀ i, i < 6 → h'.1 96 0 i = nN i ∧ h'.1 96 0 (6 + i) = nM 1 ∧ h'.1 96 0 (20 + i) = nM 2 ∧ h'.1 96 0 (26 + i) = nM 2 ∧ h'.1 96 0 (32 + i) = nN 0) ∧ ∀ k, 12 ≤ k → k < 20 → h'.1 96 0 k = nN 0) := by
    intro k
    induction k with
    | zero =>
      intro j h2 hj F A Z
      rw [Nat.add_zero] at hj
      subst hj
      have e18 : h2.1 21 0 18 = nN s := (Fr_i F (by rfl)).trans h18
      rw [q_M_begins_L23_eq]
      simp (disch := omega) only [L_0, L_1, L_2, L_3, L_4, L_5, L_6, L_7, L_8, L_9, L_10, L_11, L_12, L_13, L_14, L_15, L_16, L_17, L_18, L_19, L_20, L_21, L_22, L_23, L_24, L_25, L_26, L_27, L_28, L_29, L_30, L_31, L_32, L_33, L_34, L_35, L_40, L_41, L_42, L_43, L_44, L_45, L_47, L_48, L_50, L_53, L_57, L_59, L_60, L_61, L_63, L_64, L_97, L_100, L_101, L_102, L_103, L_122, L_130, L_216, L_255, L_364, L_400, L_402, L_420, L_728, L_768, L_999, L_1000, L_1093, L_1872, L_2000, L_9999, L_12345, L_252645135, L_858993459, L_1103515245, L_1431655765, Lm_1, Lm_2, Lm_8, N_zero, N_cast, N_add, N_mul, N_sub, N_addM, N_lt_tp, N_lt_fp, N_le_tp, N_le_fp, N_eq_tp, N_eq_fp, MN_ltp, MN_lep, NM_ltp, NM_lep, NM_eqp, MN_eqp, MM_lt_tp, MM_lt_fp, MM_le_tp, MM_le_fp, MM_eq_tp, MM_eq_fp, N_cl, N_in_t, N_in_f, M_in, N_div, N_rem, N_nb0, N_nb1, cond_true, cond_false, Bool.not_true, Bool.not_false, Bool.and_true, Bool.true_and, Bool.and_false, Bool.false_and, decide_true, decide_false, Option.bind_some, Option.bind_none]
      rw [q_M_plainly_eq]
      simp (disch := omega) only [L_0, L_1, L_2, L_3, L_4, L_5, L_6, L_7, L_8, L_9, L_10, L_11, L_12, L_13, L_14, L_15, L_16, L_17, L_18, L_19, L_20, L_21, L_22, L_23, L_24, L_25, L_26, L_27, L_28, L_29, L_30, L_31, L_32, L_33, L_34, L_35, L_40, L_41, L_42, L_43, L_44, L_45, L_47, L_48, L_50, L_53, L_57, L_59, L_60, L_61, L_63, L_64, L_97, L_100, L_101, L_102, L_103, L_122, L_130, L_216, L_255, L_364, L_400, L_402, L_420, L_728, L_768, L_999, L_1000, L_1093, L_1872, L_2000, L_9999, L_12345, L_252645135, L_858993459, L_1103515245, L_1431655765, Lm_1, Lm_2, Lm_8, N_zero, N_cast, N_add, N_mul, N_sub, N_addM, N_lt_tp, N_lt_fp, N_le_tp, N_le_fp, N_eq_tp, N_eq_fp, MN_ltp, MN_lep, NM_ltp, NM_lep, NM_eqp, MN_eqp, MM_lt_tp, MM_lt_fp, MM_le_tp, MM_le_fp, MM_eq_tp, MM_eq_fp, N_cl, N_in_t, N_in_f, M_in, N_div, N_rem, N_nb0, N_nb1, cond_true, cond_false, Bool.not_true, Bool.not_false, Bool.and_true, Bool.true_and, Bool.and_false, Bool.false_and, decide_true, decide_false, Option.bind_some, Option.bind_none, e18]
      have F2 : Fr [1049, 1050] h2 (wb_iu (wb_iu h2 21 0 49 (h2.1 84 0 s)) 21 0 50 (nN 0)) := Fr_trans (Fr_iu rfl) (Fr_iu rfl)
      refine Ok_some ⟨Fr_trans (Fr_mono F rfl) (Fr_mono F2 rfl), fun i hi => ?_, fun k h1 h2 => (Fr_i F2 (by rfl)).trans (Z k (by omega) (Or.inl ⟨h1, h2⟩))⟩
      obtain ⟨b1, b2, b3, b4⟩ := A i hi
      exact ⟨(Fr_i F2 (by rfl)).trans b1, (Fr_i F2 (by rfl)).trans b2, (Fr_i F2 (by rfl)).trans b3, (Fr_i F2 (by rfl)).trans b4, (Fr_i F2 (by rfl)).trans (Z _ (by omega) (Or.inr (by omega)))⟩
    | succ k ih =>
      intro j h2 hj F A Z
      rw [q_M_begins_L23_eq]
      simp (disch := omega) only [L_0, L_1, L_2, L_3, L_4, L_5, L_6, L_7, L_8, L_9, L_10, L_11, L_12, L_13, L_14, L_15, L_16, L_17, L_18, L_19, L_20, L_21, L_22, L_23, L_24, L_25, L_26, L_27, L_28, L_29, L_30, L_31, L_32, L_33, L_34, L_35, L_40, L_41, L_42, L_43, L_44, L_45, L_47, L_48, L_50, L_53, L_57, L_59, L_60, L_61, L_63, L_64, L_97, L_100, L_101, L_102, L_103, L_122, L_130, L_216, L_255, L_364, L_400, L_402, L_420, L_728, L_768, L_999, L_1000, L_1093, L_1872, L_2000, L_9999, L_12345, L_252645135, L_858993459, L_1103515245, L_1431655765, Lm_1, Lm_2, Lm_8, N_zero, N_cast, N_add, N_mul, N_sub, N_addM, N_lt_tp, N_lt_fp, N_le_tp, N_le_fp, N_eq_tp, N_eq_fp, MN_ltp, MN_lep, NM_ltp, NM_lep, NM_eqp, MN_eqp, MM_lt_tp, MM_lt_fp, MM_le_tp, MM_le_fp, MM_eq_tp, MM_eq_fp, N_cl, N_in_t, N_in_f, M_in, N_div, N_rem, N_nb0, N_nb1, cond_true, cond_false, Bool.not_true, Bool.not_false, Bool.and_true, Bool.true_and, Bool.and_false, Bool.false_and, decide_true, decide_false, Option.bind_some, Option.bind_none]
      refine ih (j + 1) _ (by omega) (Fr_trans F (Fr_trans (Fr_trans (Fr_trans (Fr_iu rfl) (Fr_iu rfl)) (Fr_iu rfl)) (Fr_iu rfl))) (fun i hi => ?_) (fun i h1 h2 => ?_)
      · by_cases e : i = j
        · subst e
          exact ⟨by rw [iu_ne (by omega), iu_ne (by omega), iu_ne (by omega), iu_at], by rw [iu_ne (by omega), iu_ne (by omega), iu_at], by rw [iu_ne (by omega), iu_at], iu_at⟩
        · obtain ⟨b1, b2, b3, b4⟩ := A i (by omega)
          exact ⟨by rw [iu_ne (by omega), iu_ne (by omega), iu_ne (by omega), iu_ne (by omega)]; exact b1, by rw [iu_ne (by omega), iu_ne (by omega), iu_ne (by omega), iu_ne (by omega)]; exact b2, by rw [iu_ne (by omega), iu_ne (by omega), iu_ne (by omega), iu_ne (by omega)]; exact b3, by rw [iu_ne (by omega), iu_ne (by omega), iu_ne (by omega), iu_ne (by omega)]; exact b4⟩
      · rw [iu_ne (by omega), iu_ne (by omega), iu_ne (by omega), iu_ne (by omega)]
        exact Z i h1 h2
  have first : ∀ k j h2, j + k = 48 → Fr [96] h h2 → (∀ i, i < j → h2.1 96 0 i = nN 0) → Ok (q_M_begins_L2 sc h2 (nN j)) (fun h' => Fr [96, 1049, 1050] h h' ∧ (∀ i, i < 6 → h'.1 96 0 i = nN i ∧ h'.1 96 0 (6 + i) = nM 1 ∧ h'.1 96 0 (20 + i) = nM 2 ∧ h'.1 96 0 (26 + i) = nM 2 ∧ h'.1 96 0 (32 + i) = nN 0) ∧ ∀ k, 12 ≤ k → k < 20 → h'.1 96 0 k = nN 0) := by
    intro k
    induction k with
    | zero =>
      intro j h2 hj F A
      rw [Nat.add_zero] at hj
      subst hj
      rw [q_M_begins_L2_eq]
      simp (disch := omega) only [L_0, L_1, L_2, L_3, L_4, L_5, L_6, L_7, L_8, L_9, L_10, L_11, L_12, L_13, L_14, L_15, L_16, L_17, L_18, L_19, L_20, L_21, L_22, L_23, L_24, L_25, L_26, L_27, L_28, L_29, L_30, L_31, L_32, L_33, L_34, L_35, L_40, L_41, L_42, L_43, L_44, L_45, L_47, L_48, L_50, L_53, L_57, L_59, L_60, L_61, L_63, L_64, L_97, L_100, L_101, L_102, L_103, L_122, L_130, L_216, L_255, L_364, L_400, L_402, L_420, L_728, L_768, L_999, L_1000, L_1093, L_1872, L_2000, L_9999, L_12345, L_252645135, L_858993459, L_1103515245, L_1431655765, Lm_1, Lm_2, Lm_8, N_zero, N_cast, N_add, N_mul, N_sub, N_addM, N_lt_tp, N_lt_fp, N_le_tp, N_le_fp, N_eq_tp, N_eq_fp, MN_ltp, MN_lep, NM_ltp, NM_lep, NM_eqp, MN_eqp, MM_lt_tp, MM_lt_fp, MM_le_tp, MM_le_fp, MM_eq_tp, MM_eq_fp, N_cl, N_in_t, N_in_f, M_in, N_div, N_rem, N_nb0, N_nb1, cond_true, cond_false, Bool.not_true, Bool.not_false, Bool.and_true, Bool.true_and, Bool.and_false, Bool.false_and, decide_true, decide_false, Option.bind_some, Option.bind_none]
      exact second 6 0 h2 rfl F (fun i hi => absurd hi (Nat.not_lt_zero i)) (fun i h1 _ => A i h1)
    | succ k ih =>
      intro j h2 hj F A
      rw [q_M_begins_L2_eq]
      simp (disch := omega) only [L_0, L_1, L_2, L_3, L_4, L_5, L_6, L_7, L_8, L_9, L_10, L_11, L_12, L_13, L_14, L_15, L_16, L_17, L_18, L_19, L_20, L_21, L_22, L_23, L_24, L_25, L_26, L_27, L_28, L_29, L_30, L_31, L_32, L_33, L_34, L_35, L_40, L_41, L_42, L_43, L_44, L_45, L_47, L_48, L_50, L_53, L_57, L_59, L_60, L_61, L_63, L_64, L_97, L_100, L_101, L_102, L_103, L_122, L_130, L_216, L_255, L_364, L_400, L_402, L_420, L_728, L_768, L_999, L_1000, L_1093, L_1872, L_2000, L_9999, L_12345, L_252645135, L_858993459, L_1103515245, L_1431655765, Lm_1, Lm_2, Lm_8, N_zero, N_cast, N_add, N_mul, N_sub, N_addM, N_lt_tp, N_lt_fp, N_le_tp, N_le_fp, N_eq_tp, N_eq_fp, MN_ltp, MN_lep, NM_ltp, NM_lep, NM_eqp, MN_eqp, MM_lt_tp, MM_lt_fp, MM_le_tp, MM_le_fp, MM_eq_tp, MM_eq_fp, N_cl, N_in_t, N_in_f, M_in, N_div, N_rem, N_nb0, N_nb1, cond_true, cond_false, Bool.not_true, Bool.not_false, Bool.and_true, Bool.true_and, Bool.and_false, Bool.false_and, decide_true, decide_false, Option.bind_some, Option.bind_none]
      refine ih (j + 1) _ (by omega) (Fr_trans F (Fr_iu rfl)) (fun i hi => ?_)
      by_cases e : i = j
      · subst e
        exact iu_at
      · rw [iu_ne e]
        exact A i (by omega)
  rw [q_M_begins_eq]
  exact first 48 0 h rfl (Fr_refl _ _) (fun i hi => absurd hi (Nat.not_lt_zero i))
theorem M_new {h : wb_H} {s : Nat} (h18 : h.1 21 0 18 = nN s) (hs : s < 2) : Ok ((q_M_begins sc h).bind fun h3 => (q_M_keepsRow sc h3).bind fun h4 => q_M_read_L214 sc (wb_iu (wb_iu h4 21 0 54 (nN 0)) 21 0 59 (nN 0)) (nN 0)) (fun r => r.1 = nN 0 ∧ Fr [95, 96, 1049, 1050, 1054, 1059, 108] h r.2 ∧ NewM r.2 ∧ r.2.1 21 0 54 = nN 0 ∧ r.2.1 21 0 59 = nN 0 ∧ ∀ j, j < 3 → r.2.1 108 0 j = nN 0) := by
  refine Ok_bind (M_begins h18 hs) ?_
  rintro h1 ⟨F1, A, Z⟩
  refine Ok_bind M_keepsRow ?_
  rintro h2 ⟨F2, c⟩
  have F3 : Fr [1054, 1059] h2 (wb_iu (wb_iu h2 21 0 54 (nN 0)) 21 0 59 (nN 0)) := Fr_trans (Fr_iu rfl) (Fr_iu rfl)
  have c54 : (wb_iu (wb_iu h2 21 0 54 (nN 0)) 21 0 59 (nN 0)).1 21 0 54 = nN 0 := by rw [iu_ne (by decide), iu_at]
  have c59 : (wb_iu (wb_iu h2 21 0 54 (nN 0)) 21 0 59 (nN 0)).1 21 0 59 = nN 0 := iu_at
  generalize wb_iu (wb_iu h2 21 0 54 (nN 0)) 21 0 59 (nN 0) = h3 at *
  have key : ∀ k j h4, j + k = 3 → Fr [108] h3 h4 → (∀ i, i < j → h4.1 108 0 i = nN 0) → Ok (q_M_read_L214 sc h4 (nN j)) (fun r => r.1 = nN 0 ∧ Fr [108] h3 r.2 ∧ ∀ i, i < 3 → r.2.1 108 0 i = nN 0) := by
    intro k
    induction k with
    | zero =>
      intro j h4 hj F A
      rw [Nat.add_zero] at hj
      subst hj
      rw [q_M_read_L214_eq]
      simp (disch := omega) only [L_0, L_1, L_2, L_3, L_4, L_5, L_6, L_7, L_8, L_9, L_10, L_11, L_12, L_13, L_14, L_15, L_16, L_17, L_18, L_19, L_20, L_21, L_22, L_23, L_24, L_25, L_26, L_27, L_28, L_29, L_30, L_31, L_32, L_33, L_34, L_35, L_40, L_41, L_42, L_43, L_44, L_45, L_47, L_48, L_50, L_53, L_57, L_59, L_60, L_61, L_63, L_64, L_97, L_100, L_101, L_102, L_103, L_122, L_130, L_216, L_255, L_364, L_400, L_402, L_420, L_728, L_768, L_999, L_1000, L_1093, L_1872, L_2000, L_9999, L_12345, L_252645135, L_858993459, L_1103515245, L_1431655765, Lm_1, Lm_2, Lm_8, N_zero, N_cast, N_add, N_mul, N_sub, N_addM, N_lt_tp, N_lt_fp, N_le_tp, N_le_fp, N_eq_tp, N_eq_fp, MN_ltp, MN_lep, NM_ltp, NM_lep, NM_eqp, MN_eqp, MM_lt_tp, MM_lt_fp, MM_le_tp, MM_le_fp, MM_eq_tp, MM_eq_fp, N_cl, N_in_t, N_in_f, M_in, N_div, N_rem, N_nb0, N_nb1, cond_true, cond_false, Bool.not_true, Bool.not_false, Bool.and_true, Bool.true_and, Bool.and_false, Bool.false_and, decide_true, decide_false, Option.bind_some, Option.bind_none]
      exact Ok_some ⟨rfl, F, A⟩
    | succ k ih =>
      intro j h4 hj F A
      rw [q_M_read_L214_eq]
      simp (disch := omega) only [L_0, L_1, L_2, L_3, L_4, L_5, L_6, L_7, L_8, L_9, L_10, L_11, L_12, L_13, L_14, L_15, L_16, L_17, L_18, L_19, L_20, L_21, L_22, L_23, L_24, L_25, L_26, L_27, L_28, L_29, L_30, L_31, L_32, L_33, L_34, L_35, L_40, L_41, L_42, L_43, L_44, L_45, L_47, L_48, L_50, L_53, L_57, L_59, L_60, L_61, L_63, L_64, L_97, L_100, L_101, L_102, L_103, L_122, L_130, L_216, L_255, L_364, L_400, L_402, L_420, L_728, L_768, L_999, L_1000, L_1093, L_1872, L_2000, L_9999, L_12345, L_252645135, L_858993459, L_1103515245, L_1431655765, Lm_1, Lm_2, Lm_8, N_zero, N_cast, N_add, N_mul, N_sub, N_addM, N_lt_tp, N_lt_fp, N_le_tp, N_le_fp, N_eq_tp, N_eq_fp, MN_ltp, MN_lep, NM_ltp, NM_lep, NM_eqp, MN_eqp, MM_lt_tp, MM_lt_fp, MM_le_tp, MM_le_fp, MM_eq_tp, MM_eq_fp, N_cl, N_in_t, N_in_f, M_in, N_div, N_rem, N_nb0, N_nb1, cond_true, cond_false, Bool.not_true, Bool.not_false, Bool.and_true, Bool.true_and, Bool.and_false, Bool.false_and, decide_true, decide_false, Option.bind_some, Option.bind_none]
      refine ih (j + 1) _ (by omega) (Fr_trans F (Fr_iu rfl)) (fun i hi => ?_)
      by_cases e : i = j
      · subst e
        exact iu_at
      · rw [iu_ne e]
        exact A i (by omega)
  refine Ok_w (key 3 0 h3 rfl (Fr_refl _ _) (fun i hi => absurd hi (Nat.not_lt_zero i))) ?_
  rintro ⟨rv, h5⟩ ⟨e, F4, d⟩
  have F34 : Fr [1054, 1059, 108] h2 h5 := Fr_trans (Fr_mono F3 rfl) (Fr_mono F4 rfl)
  have g : ∀ k, k < 48 → h5.1 95 0 k = h1.1 96 0 k := fun k hk => (Fr_i F34 (by rfl)).trans (c k hk)
  refine ⟨e, Fr_trans (Fr_mono F1 rfl) (Fr_trans (Fr_mono F2 rfl) (Fr_mono F34 rfl)), ⟨fun i hi => ?_, fun k a b => (g k (by omega)).trans (Z k a b)⟩, (Fr_i F4 (by rfl)).trans c54, (Fr_i F4 (by rfl)).trans c59, d⟩
  obtain ⟨b1, b2, b3, b4, b5⟩ := A i hi
  exact ⟨(g i (by omega)).trans b1, (g _ (by omega)).trans b2, (g _ (by omega)).trans b3, (g _ (by omega)).trans b4, (g _ (by omega)).trans b5⟩
end
