/-! Tokens of the reference: numerals, words. -/
theorem isD_b {b : Nat} (h : isD b = 1) : 48 ≤ b ∧ b ≤ 57 := by
  unfold isD at h
  by_cases z : 48 ≤ b ∧ b ≤ 57
  · exact z
  · rw [if_neg z] at h; omega
theorem isL_b {b : Nat} (h : isL b = 1) : 97 ≤ b ∧ b ≤ 122 := by
  unfold isL at h
  by_cases z : 97 ≤ b ∧ b ≤ 122
  · exact z
  · rw [if_neg z] at h; omega
section
variable {sc : wb_X}
theorem M_cutInt {h : wb_H} {c t i K : Nat} (hc : c ≤ 402) (h10 : h.1 21 0 10 = nN c) (ht : t ≤ 2000) (h4 : h.1 21 0 4 = nN t) (hi : i < t) (hK : run isD (txt (h.1 66 0) t) (t - i) i = K) {P : wb_H → Prop} (hP : ∀ h' kd iv, (K ≤ 4 → kd = nN 2 ∧ iv = Int32.ofInt (nvz (txt (h.1 66 0) t) i K)) → (¬ K ≤ 4 → kd = nN 3) → tkM h h' c kd (nN i) iv (Int64.ofNat 0) → Ok (q_M_cut_L7 sc h' (nN (i + K))) P) : Ok (q_M_cut_L208 sc h (nN i) (nN 0) (nN 0)) P := by
  have hz : isD (txt (h.1 66 0) t t) ≠ 1 := by rw [txt_end]; decide
  obtain ⟨r1, r2, r3⟩ := run_spec (g := isD) (b := txt (h.1 66 0) t) hz (t - i) i (by omega)
  rw [hK] at r1 r2 r3
  have key : ∀ r j, j + r = K → Ok (q_M_cut_L208 sc h (nN i) (nN j) (Int32.ofInt (nvz (txt (h.1 66 0) t) i (min j 4)))) P := by
    intro r
    induction r with
    | zero =>
      intro j hj
      rw [Nat.add_zero] at hj
      subst hj
      have d0 : isD (txt (h.1 66 0) t (i + j)) = 0 := by have := isD_le (txt (h.1 66 0) t (i + j)); omega
      rw [q_M_cut_L208_eq]
      by_cases z : j ≤ 4
      · rw [Nat.min_eq_left z]
        simp (disch := omega) only [L_0, L_1, L_2, L_3, L_4, L_5, L_6, L_7, L_8, L_9, L_10, L_11, L_12, L_13, L_14, L_15, L_16, L_17, L_18, L_19, L_20, L_21, L_22, L_23, L_24, L_25, L_26, L_27, L_28, L_29, L_30, L_31, L_32, L_33, L_34, L_35, L_40, L_41, L_42, L_43, L_44, L_45, L_47, L_48, L_50, L_53, L_57, L_59, L_60, L_61, L_63, L_64, L_97, L_100, L_101, L_102, L_103, L_122, L_130, L_216, L_255, L_364, L_400, L_402, L_420, L_728, L_768, L_999, L_1000, L_1093, L_1872, L_2000, L_9999, L_12345, L_252645135, L_858993459, L_1103515245, L_1431655765, Lm_1, Lm_2, Lm_8, N_add, N_le_tp, N_eq_tp, cond_true, cond_false, Bool.not_true, Bool.not_false, Bool.and_true, Bool.true_and, Bool.and_false, Bool.false_and, decide_true, decide_false, Option.bind_some, Option.bind_none, M_at ht h4, M_isD (txt_le _ _ _), d0]
        refine Ok_bind (M_token hc h10 _ _ _ _) ?_
        intro h' H
        exact hP h' _ _ (fun _ => ⟨rfl, rfl⟩) (fun y => absurd z y) H
      · simp (disch := omega) only [L_0, L_1, L_2, L_3, L_4, L_5, L_6, L_7, L_8, L_9, L_10, L_11, L_12, L_13, L_14, L_15, L_16, L_17, L_18, L_19, L_20, L_21, L_22, L_23, L_24, L_25, L_26, L_27, L_28, L_29, L_30, L_31, L_32, L_33, L_34, L_35, L_40, L_41, L_42, L_43, L_44, L_45, L_47, L_48, L_50, L_53, L_57, L_59, L_60, L_61, L_63, L_64, L_97, L_100, L_101, L_102, L_103, L_122, L_130, L_216, L_255, L_364, L_400, L_402, L_420, L_728, L_768, L_999, L_1000, L_1093, L_1872, L_2000, L_9999, L_12345, L_252645135, L_858993459, L_1103515245, L_1431655765, Lm_1, Lm_2, Lm_8, N_add, N_le_fp, N_eq_tp, cond_true, cond_false, Bool.not_true, Bool.not_false, Bool.and_true, Bool.true_and, Bool.and_false, Bool.false_and, decide_true, decide_false, Option.bind_some, Option.bind_none, M_at ht h4, M_isD (txt_le _ _ _), d0]
        refine Ok_bind (M_token hc h10 _ _ _ _) ?_
        intro h' H
        exact hP h' _ _ (fun y => absurd y z) (fun _ => rfl) H
    | succ r ih =>
      intro j hj
      have dj := r1 j (by omega)
      have ih2 := ih (j + 1) (by omega)
      have bl := txt_le (h.1 66 0) t (i + j)
      rw [q_M_cut_L208_eq]
      by_cases z : 4 ≤ j
      · rw [Nat.min_eq_right (show 4 ≤ j + 1 by omega)] at ih2
        rw [Nat.min_eq_right z]
        simp (disch := omega) only [L_0, L_1, L_2, L_3, L_4, L_5, L_6, L_7, L_8, L_9, L_10, L_11, L_12, L_13, L_14, L_15, L_16, L_17, L_18, L_19, L_20, L_21, L_22, L_23, L_24, L_25, L_26, L_27, L_28, L_29, L_30, L_31, L_32, L_33, L_34, L_35, L_40, L_41, L_42, L_43, L_44, L_45, L_47, L_48, L_50, L_53, L_57, L_59, L_60, L_61, L_63, L_64, L_97, L_100, L_101, L_102, L_103, L_122, L_130, L_216, L_255, L_364, L_400, L_402, L_420, L_728, L_768, L_999, L_1000, L_1093, L_1872, L_2000, L_9999, L_12345, L_252645135, L_858993459, L_1103515245, L_1431655765, Lm_1, Lm_2, Lm_8, N_add, N_le_tp, N_eq_fp, cond_true, cond_false, Bool.not_true, Bool.not_false, Bool.and_true, Bool.true_and, Bool.and_false, Bool.false_and, decide_true, decide_false, Option.bind_some, Option.bind_none, M_at ht h4, M_isD (txt_le _ _ _), dj]
        exact ih2
      · rw [Nat.min_eq_left (show j + 1 ≤ 4 by omega)] at ih2
        rw [Nat.min_eq_left (show j ≤ 4 by omega)]
        have e : (nN 10 * Int32.ofInt (nvz (txt (h.1 66 0) t) i j) + nN (txt (h.1 66 0) t (i + j))) - nN 48 = Int32.ofInt (nvz (txt (h.1 66 0) t) i (j + 1)) := by
          unfold nN
          rw [iz_mul, iz_add, iz_sub, nvz]
          rfl
        simp (disch := omega) only [L_0, L_1, L_2, L_3, L_4, L_5, L_6, L_7, L_8, L_9, L_10, L_11, L_12, L_13, L_14, L_15, L_16, L_17, L_18, L_19, L_20, L_21, L_22, L_23, L_24, L_25, L_26, L_27, L_28, L_29, L_30, L_31, L_32, L_33, L_34, L_35, L_40, L_41, L_42, L_43, L_44, L_45, L_47, L_48, L_50, L_53, L_57, L_59, L_60, L_61, L_63, L_64, L_97, L_100, L_101, L_102, L_103, L_122, L_130, L_216, L_255, L_364, L_400, L_402, L_420, L_728, L_768, L_999, L_1000, L_1093, L_1872, L_2000, L_9999, L_12345, L_252645135, L_858993459, L_1103515245, L_1431655765, Lm_1, Lm_2, Lm_8, N_add, N_le_fp, N_eq_fp, cond_true, cond_false, Bool.not_true, Bool.not_false, Bool.and_true, Bool.true_and, Bool.and_false, Bool.false_and, decide_true, decide_false, Option.bind_some, Option.bind_none, M_at ht h4, M_isD (txt_le _ _ _), dj, e]
        exact ih2
  exact key K 0 (Nat.zero_add _)
theorem M_cutWord {h : wb_H} {c t i K : Nat} (hk : ∀ k, k < 22 → h.2.1 71 0 k = mk k) (hc : c ≤ 402) (h10 : h.1 21 0 10 = nN c) (ht : t ≤ 2000) (h4 : h.1 21 0 4 = nN t) (hi : i < t) (hK : run isL (txt (h.1 66 0) t) (t - i) i = K) {P : wb_H → Prop} (hP : ∀ h' kd v, (K ≤ 8 → v = Int64.ofInt (wvz (txt (h.1 66 0) t) i K) ∧ kd = nN (if 7 < K then 1 else kmF v 22 0 1)) → (¬ K ≤ 8 → kd = nN 3) → tkM h h' c kd (nN i) (nN 0) v → Ok (q_M_cut_L7 sc h' (nN (i + K))) P) : Ok (q_M_cut_L85 sc h (nN i) (nN 0) (Int64.ofNat 0)) P := by
  have hz : isL (txt (h.1 66 0) t t) ≠ 1 := by rw [txt_end]; decide
  obtain ⟨r1, r2, r3⟩ := run_spec (g := isL) (b := txt (h.1 66 0) t) hz (t - i) i (by omega)
  rw [hK] at r1 r2 r3
  have key : ∀ r j, j + r = K → Ok (q_M_cut_L85 sc h (nN i) (nN j) (Int64.ofInt (wvz (txt (h.1 66 0) t) i (min j 8)))) P := by
    intro r
    induction r with
    | zero =>
      intro j hj
      rw [Nat.add_zero] at hj
      subst hj
      have d0 : isL (txt (h.1 66 0) t (i + j)) = 0 := by have := isL_le (txt (h.1 66 0) t (i + j)); omega
      rw [q_M_cut_L85_eq]
      by_cases z : j ≤ 8
      · rw [Nat.min_eq_left z]
        by_cases z7 : 7 < j
        · simp (disch := omega) only [L_0, L_1, L_2, L_3, L_4, L_5, L_6, L_7, L_8, L_9, L_10, L_11, L_12, L_13, L_14, L_15, L_16, L_17, L_18, L_19, L_20, L_21, L_22, L_23, L_24, L_25, L_26, L_27, L_28, L_29, L_30, L_31, L_32, L_33, L_34, L_35, L_40, L_41, L_42, L_43, L_44, L_45, L_47, L_48, L_50, L_53, L_57, L_59, L_60, L_61, L_63, L_64, L_97, L_100, L_101, L_102, L_103, L_122, L_130, L_216, L_255, L_364, L_400, L_402, L_420, L_728, L_768, L_999, L_1000, L_1093, L_1872, L_2000, L_9999, L_12345, L_252645135, L_858993459, L_1103515245, L_1431655765, Lm_1, Lm_2, Lm_8, N_add, N_le_tp, N_lt_tp, N_eq_tp, cond_true, cond_false, Bool.not_true, Bool.not_false, Bool.and_true, Bool.true_and, Bool.and_false, Bool.false_and, decide_true, decide_false, Option.bind_some, Option.bind_none, M_at ht h4, M_isL (txt_le _ _ _), d0]
          refine Ok_bind (M_token hc h10 _ _ _ _) ?_
          intro h' H
          exact hP h' _ _ (fun _ => ⟨rfl, by rw [if_pos z7]⟩) (fun y => absurd z y) H
        · simp (disch := omega) only [L_0, L_1, L_2, L_3, L_4, L_5, L_6, L_7, L_8, L_9, L_10, L_11, L_12, L_13, L_14, L_15, L_16, L_17, L_18, L_19, L_20, L_21, L_22, L_23, L_24, L_25, L_26, L_27, L_28, L_29, L_30, L_31, L_32, L_33, L_34, L_35, L_40, L_41, L_42, L_43, L_44, L_45, L_47, L_48, L_50, L_53, L_57, L_59, L_60, L_61, L_63, L_64, L_97, L_100, L_101, L_102, L_103, L_122, L_130, L_216, L_255, L_364, L_400, L_402, L_420, L_728, L_768, L_999, L_1000, L_1093, L_1872, L_2000, L_9999, L_12345, L_252645135, L_858993459, L_1103515245, L_1431655765, Lm_1, Lm_2, Lm_8, N_add, N_le_tp, N_lt_fp, N_eq_tp, cond_true, cond_false, Bool.not_true, Bool.not_false, Bool.and_true, Bool.true_and, Bool.and_false, Bool.false_and, decide_true, decide_false, Option.bind_some, Option.bind_none, M_at ht h4, M_isL (txt_le _ _ _), d0]
          refine M_search hk hc h10 _ 22 0 1 rfl ?_
          intro h' H
          exact hP h' _ _ (fun _ => ⟨rfl, by rw [if_neg z7]⟩) (fun y => absurd z y) H
      · simp (disch := omega) only [L_0, L_1, L_2, L_3, L_4, L_5, L_6, L_7, L_8, L_9, L_10, L_11, L_12, L_13, L_14, L_15, L_16, L_17, L_18, L_19, L_20, L_21, L_22, L_23, L_24, L_25, L_26, L_27, L_28, L_29, L_30, L_31, L_32, L_33, L_34, L_35, L_40, L_41, L_42, L_43, L_44, L_45, L_47, L_48, L_50, L_53, L_57, L_59, L_60, L_61, L_63, L_64, L_97, L_100, L_101, L_102, L_103, L_122, L_130, L_216, L_255, L_364, L_400, L_402, L_420, L_728, L_768, L_999, L_1000, L_1093, L_1872, L_2000, L_9999, L_12345, L_252645135, L_858993459, L_1103515245, L_1431655765, Lm_1, Lm_2, Lm_8, N_add, N_le_fp, N_lt_tp, N_eq_tp, cond_true, cond_false, Bool.not_true, Bool.not_false, Bool.and_true, Bool.true_and, Bool.and_false, Bool.false_and, decide_true, decide_false, Option.bind_some, Option.bind_none, M_at ht h4, M_isL (txt_le _ _ _), d0]
        refine Ok_bind (M_token hc h10 _ _ _ _) ?_
        intro h' H
        exact hP h' _ _ (fun y => absurd y z) (fun _ => rfl) H
    | succ r ih =>
      intro j hj
      have dj := r1 j (by omega)
      have lb := isL_b dj
      have ih2 := ih (j + 1) (by omega)
      have bl := txt_le (h.1 66 0) t (i + j)
      rw [q_M_cut_L85_eq]
      by_cases z : 8 ≤ j
      · rw [Nat.min_eq_right (show 8 ≤ j + 1 by omega)] at ih2
        rw [Nat.min_eq_right z]
        simp (disch := omega) only [L_0, L_1, L_2, L_3, L_4, L_5, L_6, L_7, L_8, L_9, L_10, L_11, L_12, L_13, L_14, L_15, L_16, L_17, L_18, L_19, L_20, L_21, L_22, L_23, L_24, L_25, L_26, L_27, L_28, L_29, L_30, L_31, L_32, L_33, L_34, L_35, L_40, L_41, L_42, L_43, L_44, L_45, L_47, L_48, L_50, L_53, L_57, L_59, L_60, L_61, L_63, L_64, L_97, L_100, L_101, L_102, L_103, L_122, L_130, L_216, L_255, L_364, L_400, L_402, L_420, L_728, L_768, L_999, L_1000, L_1093, L_1872, L_2000, L_9999, L_12345, L_252645135, L_858993459, L_1103515245, L_1431655765, Lm_1, Lm_2, Lm_8, N_add, N_le_tp, N_eq_fp, cond_true, cond_false, Bool.not_true, Bool.not_false, Bool.and_true, Bool.true_and, Bool.and_false, Bool.false_and, decide_true, decide_false, Option.bind_some, Option.bind_none, M_at ht h4, M_isL (txt_le _ _ _), dj]
        exact ih2
      · rw [Nat.min_eq_left (show j + 1 ≤ 8 by omega)] at ih2
        rw [Nat.min_eq_left (show j ≤ 8 by omega)]
        have e : q_M_appends sc h (Int64.ofInt (wvz (txt (h.1 66 0) t) i j)) (nN (txt (h.1 66 0) t (i + j))) = some (Int64.ofInt (wvz (txt (h.1 66 0) t) i (j + 1)), h) := by
          have e1 : Int64.ofNat 27 = Int64.ofInt 27 := by decide
          rw [q_M_appends_eq]
          simp (disch := omega) only [L_0, L_1, L_2, L_3, L_4, L_5, L_6, L_7, L_8, L_9, L_10, L_11, L_12, L_13, L_14, L_15, L_16, L_17, L_18, L_19, L_20, L_21, L_22, L_23, L_24, L_25, L_26, L_27, L_28, L_29, L_30, L_31, L_32, L_33, L_34, L_35, L_40, L_41, L_42, L_43, L_44, L_45, L_47, L_48, L_50, L_53, L_57, L_59, L_60, L_61, L_63, L_64, L_97, L_100, L_101, L_102, L_103, L_122, L_130, L_216, L_255, L_364, L_400, L_402, L_420, L_728, L_768, L_999, L_1000, L_1093, L_1872, L_2000, L_9999, L_12345, L_252645135, L_858993459, L_1103515245, L_1431655765, Lm_1, Lm_2, Lm_8, N_eq_fp, N_sub, N_add, cond_true, cond_false, Bool.not_true, Bool.not_false, Bool.and_true, Bool.true_and, Bool.and_false, Bool.false_and, decide_true, decide_false, Option.bind_some, Option.bind_none]
          rw [nN_long (by omega), e1, ← Int64.ofInt_mul, ← Int64.ofInt_add, wvz]
          refine congrArg (fun x => some (Int64.ofInt x, h)) ?_
          omega
        simp (disch := omega) only [L_0, L_1, L_2, L_3, L_4, L_5, L_6, L_7, L_8, L_9, L_10, L_11, L_12, L_13, L_14, L_15, L_16, L_17, L_18, L_19, L_20, L_21, L_22, L_23, L_24, L_25, L_26, L_27, L_28, L_29, L_30, L_31, L_32, L_33, L_34, L_35, L_40, L_41, L_42, L_43, L_44, L_45, L_47, L_48, L_50, L_53, L_57, L_59, L_60, L_61, L_63, L_64, L_97, L_100, L_101, L_102, L_103, L_122, L_130, L_216, L_255, L_364, L_400, L_402, L_420, L_728, L_768, L_999, L_1000, L_1093, L_1872, L_2000, L_9999, L_12345, L_252645135, L_858993459, L_1103515245, L_1431655765, Lm_1, Lm_2, Lm_8, N_add, N_le_fp, N_eq_fp, cond_true, cond_false, Bool.not_true, Bool.not_false, Bool.and_true, Bool.true_and, Bool.and_false, Bool.false_and, decide_true, decide_false, Option.bind_some, Option.bind_none, M_at ht h4, M_isL (txt_le _ _ _), dj, e]
        exact ih2
  exact key K 0 (Nat.zero_add _)
end
