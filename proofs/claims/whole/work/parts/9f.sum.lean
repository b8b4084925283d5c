/-! Expressions: the two ways to read one go beside one another, token by token. -/
def EI (q s : Nat) (kd pl : Nat → Nat) (vl : Nat → Int) (z0 y0 w p : Nat) (cs : List (Nat × Int32)) (ws : List Nat) (o : Nat) (x m : wb_H) : Prop := En q s kd pl vl x m ∧ Live kd pl p w x m ∧ Cd q z0 y0 cs x m ∧ Wt ws x m ∧ m.1 21 0 12 = nN o ∧ opnW ws = o ∧ o ≤ 6 ∧ z0 + cs.length + binW ws ≤ p ∧ 420 * s ≤ y0 ∧ y0 + cs.length + binW ws ≤ 420 * s + p ∧ PLn q x
section
variable {sc : wb_X} {q s : Nat} {kd pl : Nat → Nat} {vl : Nat → Int} {z0 y0 w : Nat}
/-- an expression is at its end -/
theorem ls_end {p i : Nat} {cs : List (Nat × Int32)} {ws : List Nat} {x m : wb_H} (I : EI q s kd pl vl z0 y0 w p cs ws 0 x m) (hd : dpt 0 cs = binW ws + 1) (hi : i ≤ p + 1) (v : Int32) : Both (q_Reader_parseSum_L14 sc x (nN 0) v (nN 1) (nN i)) (q_M_comesOut sc m (nN 0)) (Fin p q s kd pl z0 y0 w x m) := by
  obtain ⟨E, H, C, W, o1, o2, o3, l1, l2, l3, P⟩ := I
  have p4 : p ≤ 400 := by
    obtain ⟨y, hy, o, -⟩ := H
    exact o.1
  have lw := len_W ws
  have sb := shp_bin W.2.2.2.2
  have tl := tbW_le ws
  have e : q_Reader_parseSum_L14 sc x (nN 0) v (nN 1) (nN i) = q_Reader_emitWaiting_L0 sc x (nN 1) := by
    rw [q_Reader_parseSum_L14_eq, ← X_emitW_L0]
    have h8 : x.1 16 0 8 = nN 0 := by
      obtain ⟨y, hy, o, w5, y2, lx, lm⟩ := H
      exact lx.2.2.1
    by_cases z : 400 < i
    · simp (disch := omega) only [L_0, L_1, L_2, L_3, L_4, L_5, L_6, L_7, L_8, L_9, L_10, L_11, L_12, L_13, L_14, L_15, L_16, L_17, L_18, L_19, L_20, L_21, L_22, L_23, L_24, L_25, L_26, L_27, L_28, L_29, L_30, L_31, L_32, L_33, L_34, L_35, L_40, L_41, L_42, L_43, L_44, L_45, L_47, L_48, L_50, L_53, L_57, L_59, L_60, L_61, L_63, L_64, L_97, L_100, L_101, L_102, L_103, L_122, L_130, L_216, L_255, L_364, L_400, L_402, L_420, L_728, L_768, L_999, L_1000, L_1093, L_1872, L_2000, L_9999, L_12345, L_252645135, L_858993459, L_1103515245, L_1431655765, Lm_1, Lm_2, Lm_8, N_zero, N_cast, N_add, N_mul, N_sub, N_addM, N_lt_tp, N_lt_fp, N_le_tp, N_le_fp, N_eq_tp, N_eq_fp, MN_ltp, MN_lep, NM_ltp, NM_lep, NM_eqp, MN_eqp, MM_lt_tp, MM_lt_fp, MM_le_tp, MM_le_fp, MM_eq_tp, MM_eq_fp, N_cl, N_in_t, N_in_f, M_in, N_div, N_rem, N_nb0, N_nb1, cond_true, cond_false, Bool.not_true, Bool.not_false, Bool.and_true, Bool.true_and, Bool.and_false, Bool.false_and, decide_true, decide_false, Option.bind_some, Option.bind_none, bnd_some]
    · simp (disch := omega) only [L_0, L_1, L_2, L_3, L_4, L_5, L_6, L_7, L_8, L_9, L_10, L_11, L_12, L_13, L_14, L_15, L_16, L_17, L_18, L_19, L_20, L_21, L_22, L_23, L_24, L_25, L_26, L_27, L_28, L_29, L_30, L_31, L_32, L_33, L_34, L_35, L_40, L_41, L_42, L_43, L_44, L_45, L_47, L_48, L_50, L_53, L_57, L_59, L_60, L_61, L_63, L_64, L_97, L_100, L_101, L_102, L_103, L_122, L_130, L_216, L_255, L_364, L_400, L_402, L_420, L_728, L_768, L_999, L_1000, L_1093, L_1872, L_2000, L_9999, L_12345, L_252645135, L_858993459, L_1103515245, L_1431655765, Lm_1, Lm_2, Lm_8, N_zero, N_cast, N_add, N_mul, N_sub, N_addM, N_lt_tp, N_lt_fp, N_le_tp, N_le_fp, N_eq_tp, N_eq_fp, MN_ltp, MN_lep, NM_ltp, NM_lep, NM_eqp, MN_eqp, MM_lt_tp, MM_lt_fp, MM_le_tp, MM_le_fp, MM_eq_tp, MM_eq_fp, N_cl, N_in_t, N_in_f, M_in, N_div, N_rem, N_nb0, N_nb1, cond_true, cond_false, Bool.not_true, Bool.not_false, Bool.and_true, Bool.true_and, Bool.and_false, Bool.false_and, decide_true, decide_false, Option.bind_some, Option.bind_none, bnd_some, h8]
  rw [e, M_comes_L0]
  refine Both_w (ls_pop (b := 1) (Or.inl rfl) E.2.1 E.2.2.1 ws cs x m E.2.2.2.2.1 C W hd (by omega) l2 (by omega) (by omega)) ?_
  rintro x1 m1 ⟨F, X, G, M, K, J, cs', ws', C', W', d', n', op', t'⟩
  have wn : ws' = [] := shp_nil W'.2.2.2.2 t' (by omega)
  subst wn
  have n2 : cs'.length + 0 = cs.length + binW ws := n'
  exact ⟨⟨Fr_mono F rfl, X, Fr_mono G rfl, M⟩, Or.inl ⟨p, cs', Live_fr F G rfl rfl H, C', d', by omega, by omega, K, J, (Fr_i G (by rfl)).trans o1, Nat.le_refl _⟩⟩
theorem shp_open {l : List Nat} (h : shp l) (h1 : tbW l < 1) (h2 : 0 < opnW l) : ∃ r, l = 6 :: r := by
  cases l with
  | nil => exact absurd h2 (Nat.lt_irrefl 0)
  | cons k r =>
    have a := h.1
    have b : bnk k < 1 := h1
    refine ⟨r, ?_⟩
    have : k = 6 := by
      unfold okW at a
      unfold bnk at b
      repeat' split at b
      all_goals omega
    rw [this]
theorem M_route {p y : Nat} {m : wb_H} (ts : TKS kd pl vl) (tm : TKM m kd pl vl) (ok : okT kd p) (lm : LvM p w y m) (hk : kd p = 8 ∨ kd p = 9 ∨ kd p = 10 ∨ kd p = 15) : q_M_expression_L96 sc m (nN 0) = q_M_expression_L234 sc m (nN 0) (nN 1) (nN (bnk (kd p) - 1)) := by
  have f : ∀ k, k ≤ 100 → kd p ≠ k → q_M_is sc m (nN k) = some (nN 0, m) := fun k h1 h2 => by rw [M_is ts tm ok lm h1, if_neg h2]
  have t : ∀ k, k ≤ 100 → kd p = k → q_M_is sc m (nN k) = some (nN 1, m) := fun k h1 h2 => by rw [M_is ts tm ok lm h1, if_pos h2]
  rw [q_M_expression_L96_eq]
  simp only [L_0, L_1, L_2, L_3, L_4, L_5, L_6, L_7, L_8, L_9, L_10, L_11, L_12, L_13, L_14, L_15, L_16, L_17, L_18, L_19, L_20, L_21, L_22, L_23, L_24, L_25, L_26, L_27, L_28, L_29, L_30, L_31, L_32, L_33, L_34, L_35, L_40, L_41, L_42, L_43, L_44, L_45, L_47, L_48, L_50, L_53, L_57, L_59, L_60, L_61, L_63, L_64, L_97, L_100, L_101, L_102, L_103, L_122, L_130, L_216, L_255, L_364, L_400, L_402, L_420, L_728, L_768, L_999, L_1000, L_1093, L_1872, L_2000, L_9999, L_12345, L_252645135, L_858993459, L_1103515245, L_1431655765, Lm_1, Lm_2, Lm_8]
  rw [f 7 (by decide) (by omega)]
  simp (disch := omega) only [L_0, L_1, L_2, L_3, L_4, L_5, L_6, L_7, L_8, L_9, L_10, L_11, L_12, L_13, L_14, L_15, L_16, L_17, L_18, L_19, L_20, L_21, L_22, L_23, L_24, L_25, L_26, L_27, L_28, L_29, L_30, L_31, L_32, L_33, L_34, L_35, L_40, L_41, L_42, L_43, L_44, L_45, L_47, L_48, L_50, L_53, L_57, L_59, L_60, L_61, L_63, L_64, L_97, L_100, L_101, L_102, L_103, L_122, L_130, L_216, L_255, L_364, L_400, L_402, L_420, L_728, L_768, L_999, L_1000, L_1093, L_1872, L_2000, L_9999, L_12345, L_252645135, L_858993459, L_1103515245, L_1431655765, Lm_1, Lm_2, Lm_8, N_zero, N_cast, N_add, N_mul, N_sub, N_addM, N_lt_tp, N_lt_fp, N_le_tp, N_le_fp, N_eq_tp, N_eq_fp, MN_ltp, MN_lep, NM_ltp, NM_lep, NM_eqp, MN_eqp, MM_lt_tp, MM_lt_fp, MM_le_tp, MM_le_fp, MM_eq_tp, MM_eq_fp, N_cl, N_in_t, N_in_f, M_in, N_div, N_rem, N_nb0, N_nb1, cond_true, cond_false, Bool.not_true, Bool.not_false, Bool.and_true, Bool.true_and, Bool.and_false, Bool.false_and, decide_true, decide_false, Option.bind_some, Option.bind_none]
  rw [q_M_expression_L145_eq]
  simp only [L_0, L_1, L_2, L_3, L_4, L_5, L_6, L_7, L_8, L_9, L_10, L_11, L_12, L_13, L_14, L_15, L_16, L_17, L_18, L_19, L_20, L_21, L_22, L_23, L_24, L_25, L_26, L_27, L_28, L_29, L_30, L_31, L_32, L_33, L_34, L_35, L_40, L_41, L_42, L_43, L_44, L_45, L_47, L_48, L_50, L_53, L_57, L_59, L_60, L_61, L_63, L_64, L_97, L_100, L_101, L_102, L_103, L_122, L_130, L_216, L_255, L_364, L_400, L_402, L_420, L_728, L_768, L_999, L_1000, L_1093, L_1872, L_2000, L_9999, L_12345, L_252645135, L_858993459, L_1103515245, L_1431655765, Lm_1, Lm_2, Lm_8]
  rcases hk with e | e | e | e
  · rw [t 8 (by decide) e]
    simp (disch := omega) only [L_0, L_1, L_2, L_3, L_4, L_5, L_6, L_7, L_8, L_9, L_10, L_11, L_12, L_13, L_14, L_15, L_16, L_17, L_18, L_19, L_20, L_21, L_22, L_23, L_24, L_25, L_26, L_27, L_28, L_29, L_30, L_31, L_32, L_33, L_34, L_35, L_40, L_41, L_42, L_43, L_44, L_45, L_47, L_48, L_50, L_53, L_57, L_59, L_60, L_61, L_63, L_64, L_97, L_100, L_101, L_102, L_103, L_122, L_130, L_216, L_255, L_364, L_400, L_402, L_420, L_728, L_768, L_999, L_1000, L_1093, L_1872, L_2000, L_9999, L_12345, L_252645135, L_858993459, L_1103515245, L_1431655765, Lm_1, Lm_2, Lm_8, N_zero, N_cast, N_add, N_mul, N_sub, N_addM, N_lt_tp, N_lt_fp, N_le_tp, N_le_fp, N_eq_tp, N_eq_fp, MN_ltp, MN_lep, NM_ltp, NM_lep, NM_eqp, MN_eqp, MM_lt_tp, MM_lt_fp, MM_le_tp, MM_le_fp, MM_eq_tp, MM_eq_fp, N_cl, N_in_t, N_in_f, M_in, N_div, N_rem, N_nb0, N_nb1, cond_true, cond_false, Bool.not_true, Bool.not_false, Bool.and_true, Bool.true_and, Bool.and_false, Bool.false_and, decide_true, decide_false, Option.bind_some, Option.bind_none]
    rw [q_M_expression_L186_eq]
    simp only [L_0, L_1, L_2, L_3, L_4, L_5, L_6, L_7, L_8, L_9, L_10, L_11, L_12, L_13, L_14, L_15, L_16, L_17, L_18, L_19, L_20, L_21, L_22, L_23, L_24, L_25, L_26, L_27, L_28, L_29, L_30, L_31, L_32, L_33, L_34, L_35, L_40, L_41, L_42, L_43, L_44, L_45, L_47, L_48, L_50, L_53, L_57, L_59, L_60, L_61, L_63, L_64, L_97, L_100, L_101, L_102, L_103, L_122, L_130, L_216, L_255, L_364, L_400, L_402, L_420, L_728, L_768, L_999, L_1000, L_1093, L_1872, L_2000, L_9999, L_12345, L_252645135, L_858993459, L_1103515245, L_1431655765, Lm_1, Lm_2, Lm_8]
    rw [f 10 (by decide) (by omega)]
    simp (disch := omega) only [L_0, L_1, L_2, L_3, L_4, L_5, L_6, L_7, L_8, L_9, L_10, L_11, L_12, L_13, L_14, L_15, L_16, L_17, L_18, L_19, L_20, L_21, L_22, L_23, L_24, L_25, L_26, L_27, L_28, L_29, L_30, L_31, L_32, L_33, L_34, L_35, L_40, L_41, L_42, L_43, L_44, L_45, L_47, L_48, L_50, L_53, L_57, L_59, L_60, L_61, L_63, L_64, L_97, L_100, L_101, L_102, L_103, L_122, L_130, L_216, L_255, L_364, L_400, L_402, L_420, L_728, L_768, L_999, L_1000, L_1093, L_1872, L_2000, L_9999, L_12345, L_252645135, L_858993459, L_1103515245, L_1431655765, Lm_1, Lm_2, Lm_8, N_zero, N_cast, N_add, N_mul, N_sub, N_addM, N_lt_tp, N_lt_fp, N_le_tp, N_le_fp, N_eq_tp, N_eq_fp, MN_ltp, MN_lep, NM_ltp, NM_lep, NM_eqp, MN_eqp, MM_lt_tp, MM_lt_fp, MM_le_tp, MM_le_fp, MM_eq_tp, MM_eq_fp, N_cl, N_in_t, N_in_f, M_in, N_div, N_rem, N_nb0, N_nb1, cond_true, cond_false, Bool.not_true, Bool.not_false, Bool.and_true, Bool.true_and, Bool.and_false, Bool.false_and, decide_true, decide_false, Option.bind_some, Option.bind_none]
    rw [f 15 (by decide) (by omega), e]
    simp (disch := omega) only [L_0, L_1, L_2, L_3, L_4, L_5, L_6, L_7, L_8, L_9, L_10, L_11, L_12, L_13, L_14, L_15, L_16, L_17, L_18, L_19, L_20, L_21, L_22, L_23, L_24, L_25, L_26, L_27, L_28, L_29, L_30, L_31, L_32, L_33, L_34, L_35, L_40, L_41, L_42, L_43, L_44, L_45, L_47, L_48, L_50, L_53, L_57, L_59, L_60, L_61, L_63, L_64, L_97, L_100, L_101, L_102, L_103, L_122, L_130, L_216, L_255, L_364, L_400, L_402, L_420, L_728, L_768, L_999, L_1000, L_1093, L_1872, L_2000, L_9999, L_12345, L_252645135, L_858993459, L_1103515245, L_1431655765, Lm_1, Lm_2, Lm_8, N_zero, N_cast, N_add, N_mul, N_sub, N_addM, N_lt_tp, N_lt_fp, N_le_tp, N_le_fp, N_eq_tp, N_eq_fp, MN_ltp, MN_lep, NM_ltp, NM_lep, NM_eqp, MN_eqp, MM_lt_tp, MM_lt_fp, MM_le_tp, MM_le_fp, MM_eq_tp, MM_eq_fp, N_cl, N_in_t, N_in_f, M_in, N_div, N_rem, N_nb0, N_nb1, cond_true, cond_false, Bool.not_true, Bool.not_false, Bool.and_true, Bool.true_and, Bool.and_false, Bool.false_and, decide_true, decide_false, Option.bind_some, Option.bind_none]
    rfl
  · rw [f 8 (by decide) (by omega)]
    simp (disch := omega) only [L_0, L_1, L_2, L_3, L_4, L_5, L_6, L_7, L_8, L_9, L_10, L_11, L_12, L_13, L_14, L_15, L_16, L_17, L_18, L_19, L_20, L_21, L_22, L_23, L_24, L_25, L_26, L_27, L_28, L_29, L_30, L_31, L_32, L_33, L_34, L_35, L_40, L_41, L_42, L_43, L_44, L_45, L_47, L_48, L_50, L_53, L_57, L_59, L_60, L_61, L_63, L_64, L_97, L_100, L_101, L_102, L_103, L_122, L_130, L_216, L_255, L_364, L_400, L_402, L_420, L_728, L_768, L_999, L_1000, L_1093, L_1872, L_2000, L_9999, L_12345, L_252645135, L_858993459, L_1103515245, L_1431655765, Lm_1, Lm_2, Lm_8, N_zero, N_cast, N_add, N_mul, N_sub, N_addM, N_lt_tp, N_lt_fp, N_le_tp, N_le_fp, N_eq_tp, N_eq_fp, MN_ltp, MN_lep, NM_ltp, NM_lep, NM_eqp, MN_eqp, MM_lt_tp, MM_lt_fp, MM_le_tp, MM_le_fp, MM_eq_tp, MM_eq_fp, N_cl, N_in_t, N_in_f, M_in, N_div, N_rem, N_nb0, N_nb1, cond_true, cond_false, Bool.not_true, Bool.not_false, Bool.and_true, Bool.true_and, Bool.and_false, Bool.false_and, decide_true, decide_false, Option.bind_some, Option.bind_none]
    rw [t 9 (by decide) e]
    simp (disch := omega) only [L_0, L_1, L_2, L_3, L_4, L_5, L_6, L_7, L_8, L_9, L_10, L_11, L_12, L_13, L_14, L_15, L_16, L_17, L_18, L_19, L_20, L_21, L_22, L_23, L_24, L_25, L_26, L_27, L_28, L_29, L_30, L_31, L_32, L_33, L_34, L_35, L_40, L_41, L_42, L_43, L_44, L_45, L_47, L_48, L_50, L_53, L_57, L_59, L_60, L_61, L_63, L_64, L_97, L_100, L_101, L_102, L_103, L_122, L_130, L_216, L_255, L_364, L_400, L_402, L_420, L_728, L_768, L_999, L_1000, L_1093, L_1872, L_2000, L_9999, L_12345, L_252645135, L_858993459, L_1103515245, L_1431655765, Lm_1, Lm_2, Lm_8, N_zero, N_cast, N_add, N_mul, N_sub, N_addM, N_lt_tp, N_lt_fp, N_le_tp, N_le_fp, N_eq_tp, N_eq_fp, MN_ltp, MN_lep, NM_ltp, NM_lep, NM_eqp, MN_eqp, MM_lt_tp, MM_lt_fp, MM_le_tp, MM_le_fp, MM_eq_tp, MM_eq_fp, N_cl, N_in_t, N_in_f, M_in, N_div, N_rem, N_nb0, N_nb1, cond_true, cond_false, Bool.not_true, Bool.not_false, Bool.and_true, Bool.true_and, Bool.and_false, Bool.false_and, decide_true, decide_false, Option.bind_some, Option.bind_none]
    rw [q_M_expression_L186_eq]
    simp only [L_0, L_1, L_2, L_3, L_4, L_5, L_6, L_7, L_8, L_9, L_10, L_11, L_12, L_13, L_14, L_15, L_16, L_17, L_18, L_19, L_20, L_21, L_22, L_23, L_24, L_25, L_26, L_27, L_28, L_29, L_30, L_31, L_32, L_33, L_34, L_35, L_40, L_41, L_42, L_43, L_44, L_45, L_47, L_48, L_50, L_53, L_57, L_59, L_60, L_61, L_63, L_64, L_97, L_100, L_101, L_102, L_103, L_122, L_130, L_216, L_255, L_364, L_400, L_402, L_420, L_728, L_768, L_999, L_1000, L_1093, L_1872, L_2000, L_9999, L_12345, L_252645135, L_858993459, L_1103515245, L_1431655765, Lm_1, Lm_2, Lm_8]
    rw [f 10 (by decide) (by omega)]
    simp (disch := omega) only [L_0, L_1, L_2, L_3, L_4, L_5, L_6, L_7, L_8, L_9, L_10, L_11, L_12, L_13, L_14, L_15, L_16, L_17, L_18, L_19, L_20, L_21, L_22, L_23, L_24, L_25, L_26, L_27, L_28, L_29, L_30, L_31, L_32, L_33, L_34, L_35, L_40, L_41, L_42, L_43, L_44, L_45, L_47, L_48, L_50, L_53, L_57, L_59, L_60, L_61, L_63, L_64, L_97, L_100, L_101, L_102, L_103, L_122, L_130, L_216, L_255, L_364, L_400, L_402, L_420, L_728, L_768, L_999, L_1000, L_1093, L_1872, L_2000, L_9999, L_12345, L_252645135, L_858993459, L_1103515245, L_1431655765, Lm_1, Lm_2, Lm_8, N_zero, N_cast, N_add, N_mul, N_sub, N_addM, N_lt_tp, N_lt_fp, N_le_tp, N_le_fp, N_eq_tp, N_eq_fp, MN_ltp, MN_lep, NM_ltp, NM_lep, NM_eqp, MN_eqp, MM_lt_tp, MM_lt_fp, MM_le_tp, MM_le_fp, MM_eq_tp, MM_eq_fp, N_cl, N_in_t, N_in_f, M_in, N_div, N_rem, N_nb0, N_nb1, cond_true, cond_false, Bool.not_true, Bool.not_false, Bool.and_true, Bool.true_and, Bool.and_false, Bool.false_and, decide_true, decide_false, Option.bind_some, Option.bind_none]
    rw [f 15 (by decide) (by omega), e]
    simp (disch := omega) only [L_0, L_1, L_2, L_3, L_4, L_5, L_6, L_7, L_8, L_9, L_10, L_11, L_12, L_13, L_14, L_15, L_16, L_17, L_18, L_19, L_20, L_21, L_22, L_23, L_24, L_25, L_26, L_27, L_28, L_29, L_30, L_31, L_32, L_33, L_34, L_35, L_40, L_41, L_42, L_43, L_44, L_45, L_47, L_48, L_50, L_53, L_57, L_59, L_60, L_61, L_63, L_64, L_97, L_100, L_101, L_102, L_103, L_122, L_130, L_216, L_255, L_364, L_400, L_402, L_420, L_728, L_768, L_999, L_1000, L_1093, L_1872, L_2000, L_9999, L_12345, L_252645135, L_858993459, L_1103515245, L_1431655765, Lm_1, Lm_2, Lm_8, N_zero, N_cast, N_add, N_mul, N_sub, N_addM, N_lt_tp, N_lt_fp, N_le_tp, N_le_fp, N_eq_tp, N_eq_fp, MN_ltp, MN_lep, NM_ltp, NM_lep, NM_eqp, MN_eqp, MM_lt_tp, MM_lt_fp, MM_le_tp, MM_le_fp, MM_eq_tp, MM_eq_fp, N_cl, N_in_t, N_in_f, M_in, N_div, N_rem, N_nb0, N_nb1, cond_true, cond_false, Bool.not_true, Bool.not_false, Bool.and_true, Bool.true_and, Bool.and_false, Bool.false_and, decide_true, decide_false, Option.bind_some, Option.bind_none]
    rfl
  · rw [f 8 (by decide) (by omega)]
    simp (disch := omega) only [L_0, L_1, L_2, L_3, L_4, L_5, L_6, L_7, L_8, L_9, L_10, L_11, L_12, L_13, L_14, L_15, L_16, L_17, L_18, L_19, L_20, L_21, L_22, L_23, L_24, L_25, L_26, L_27, L_28, L_29, L_30, L_31, L_32, L_33, L_34, L_35, L_40, L_41, L_42, L_43, L_44, L_45, L_47, L_48, L_50, L_53, L_57, L_59, L_60, L_61, L_63, L_64, L_97, L_100, L_101, L_102, L_103, L_122, L_130, L_216, L_255, L_364, L_400, L_402, L_420, L_728, L_768, L_999, L_1000, L_1093, L_1872, L_2000, L_9999, L_12345, L_252645135, L_858993459, L_1103515245, L_1431655765, Lm_1, Lm_2, Lm_8, N_zero, N_cast, N_add, N_mul, N_sub, N_addM, N_lt_tp, N_lt_fp, N_le_tp, N_le_fp, N_eq_tp, N_eq_fp, MN_ltp, MN_lep, NM_ltp, NM_lep, NM_eqp, MN_eqp, MM_lt_tp, MM_lt_fp, MM_le_tp, MM_le_fp, MM_eq_tp, MM_eq_fp, N_cl, N_in_t, N_in_f, M_in, N_div, N_rem, N_nb0, N_nb1, cond_true, cond_false, Bool.not_true, Bool.not_false, Bool.and_true, Bool.true_and, Bool.and_false, Bool.false_and, decide_true, decide_false, Option.bind_some, Option.bind_none]
    rw [f 9 (by decide) (by omega)]
    simp (disch := omega) only [L_0, L_1, L_2, L_3, L_4, L_5, L_6, L_7, L_8, L_9, L_10, L_11, L_12, L_13, L_14, L_15, L_16, L_17, L_18, L_19, L_20, L_21, L_22, L_23, L_24, L_25, L_26, L_27, L_28, L_29, L_30, L_31, L_32, L_33, L_34, L_35, L_40, L_41, L_42, L_43, L_44, L_45, L_47, L_48, L_50, L_53, L_57, L_59, L_60, L_61, L_63, L_64, L_97, L_100, L_101, L_102, L_103, L_122, L_130, L_216, L_255, L_364, L_400, L_402, L_420, L_728, L_768, L_999, L_1000, L_1093, L_1872, L_2000, L_9999, L_12345, L_252645135, L_858993459, L_1103515245, L_1431655765, Lm_1, Lm_2, Lm_8, N_zero, N_cast, N_add, N_mul, N_sub, N_addM, N_lt_tp, N_lt_fp, N_le_tp, N_le_fp, N_eq_tp, N_eq_fp, MN_ltp, MN_lep, NM_ltp, NM_lep, NM_eqp, MN_eqp, MM_lt_tp, MM_lt_fp, MM_le_tp, MM_le_fp, MM_eq_tp, MM_eq_fp, N_cl, N_in_t, N_in_f, M_in, N_div, N_rem, N_nb0, N_nb1, cond_true, cond_false, Bool.not_true, Bool.not_false, Bool.and_true, Bool.true_and, Bool.and_false, Bool.false_and, decide_true, decide_false, Option.bind_some, Option.bind_none]
    rw [t 10 (by decide) e]
    simp (disch := omega) only [L_0, L_1, L_2, L_3, L_4, L_5, L_6, L_7, L_8, L_9, L_10, L_11, L_12, L_13, L_14, L_15, L_16, L_17, L_18, L_19, L_20, L_21, L_22, L_23, L_24, L_25, L_26, L_27, L_28, L_29, L_30, L_31, L_32, L_33, L_34, L_35, L_40, L_41, L_42, L_43, L_44, L_45, L_47, L_48, L_50, L_53, L_57, L_59, L_60, L_61, L_63, L_64, L_97, L_100, L_101, L_102, L_103, L_122, L_130, L_216, L_255, L_364, L_400, L_402, L_420, L_728, L_768, L_999, L_1000, L_1093, L_1872, L_2000, L_9999, L_12345, L_252645135, L_858993459, L_1103515245, L_1431655765, Lm_1, Lm_2, Lm_8, N_zero, N_cast, N_add, N_mul, N_sub, N_addM, N_lt_tp, N_lt_fp, N_le_tp, N_le_fp, N_eq_tp, N_eq_fp, MN_ltp, MN_lep, NM_ltp, NM_lep, NM_eqp, MN_eqp, MM_lt_tp, MM_lt_fp, MM_le_tp, MM_le_fp, MM_eq_tp, MM_eq_fp, N_cl, N_in_t, N_in_f, M_in, N_div, N_rem, N_nb0, N_nb1, cond_true, cond_false, Bool.not_true, Bool.not_false, Bool.and_true, Bool.true_and, Bool.and_false, Bool.false_and, decide_true, decide_false, Option.bind_some, Option.bind_none]
    rw [q_M_expression_L186_eq]
    simp only [L_0, L_1, L_2, L_3, L_4, L_5, L_6, L_7, L_8, L_9, L_10, L_11, L_12, L_13, L_14, L_15, L_16, L_17, L_18, L_19, L_20, L_21, L_22, L_23, L_24, L_25, L_26, L_27, L_28, L_29, L_30, L_31, L_32, L_33, L_34, L_35, L_40, L_41, L_42, L_43, L_44, L_45, L_47, L_48, L_50, L_53, L_57, L_59, L_60, L_61, L_63, L_64, L_97, L_100, L_101, L_102, L_103, L_122, L_130, L_216, L_255, L_364, L_400, L_402, L_420, L_728, L_768, L_999, L_1000, L_1093, L_1872, L_2000, L_9999, L_12345, L_252645135, L_858993459, L_1103515245, L_1431655765, Lm_1, Lm_2, Lm_8]
    rw [t 10 (by decide) e, e]
    simp (disch := omega) only [L_0, L_1, L_2, L_3, L_4, L_5, L_6, L_7, L_8, L_9, L_10, L_11, L_12, L_13, L_14, L_15, L_16, L_17, L_18, L_19, L_20, L_21, L_22, L_23, L_24, L_25, L_26, L_27, L_28, L_29, L_30, L_31, L_32, L_33, L_34, L_35, L_40, L_41, L_42, L_43, L_44, L_45, L_47, L_48, L_50, L_53, L_57, L_59, L_60, L_61, L_63, L_64, L_97, L_100, L_101, L_102, L_103, L_122, L_130, L_216, L_255, L_364, L_400, L_402, L_420, L_728, L_768, L_999, L_1000, L_1093, L_1872, L_2000, L_9999, L_12345, L_252645135, L_858993459, L_1103515245, L_1431655765, Lm_1, Lm_2, Lm_8, N_zero, N_cast, N_add, N_mul, N_sub, N_addM, N_lt_tp, N_lt_fp, N_le_tp, N_le_fp, N_eq_tp, N_eq_fp, MN_ltp, MN_lep, NM_ltp, NM_lep, NM_eqp, MN_eqp, MM_lt_tp, MM_lt_fp, MM_le_tp, MM_le_fp, MM_eq_tp, MM_eq_fp, N_cl, N_in_t, N_in_f, M_in, N_div, N_rem, N_nb0, N_nb1, cond_true, cond_false, Bool.not_true, Bool.not_false, Bool.and_true, Bool.true_and, Bool.and_false, Bool.false_and, decide_true, decide_false, Option.bind_some, Option.bind_none]
    rfl
  · rw [f 8 (by decide) (by omega)]
    simp (disch := omega) only [L_0, L_1, L_2, L_3, L_4, L_5, L_6, L_7, L_8, L_9, L_10, L_11, L_12, L_13, L_14, L_15, L_16, L_17, L_18, L_19, L_20, L_21, L_22, L_23, L_24, L_25, L_26, L_27, L_28, L_29, L_30, L_31, L_32, L_33, L_34, L_35, L_40, L_41, L_42, L_43, L_44, L_45, L_47, L_48, L_50, L_53, L_57, L_59, L_60, L_61, L_63, L_64, L_97, L_100, L_101, L_102, L_103, L_122, L_130, L_216, L_255, L_364, L_400, L_402, L_420, L_728, L_768, L_999, L_1000, L_1093, L_1872, L_2000, L_9999, L_12345, L_252645135, L_858993459, L_1103515245, L_1431655765, Lm_1, Lm_2, Lm_8, N_zero, N_cast, N_add, N_mul, N_sub, N_addM, N_lt_tp, N_lt_fp, N_le_tp, N_le_fp, N_eq_tp, N_eq_fp, MN_ltp, MN_lep, NM_ltp, NM_lep, NM_eqp, MN_eqp, MM_lt_tp, MM_lt_fp, MM_le_tp, MM_le_fp, MM_eq_tp, MM_eq_fp, N_cl, N_in_t, N_in_f, M_in, N_div, N_rem, N_nb0, N_nb1, cond_true, cond_false, Bool.not_true, Bool.not_false, Bool.and_true, Bool.true_and, Bool.and_false, Bool.false_and, decide_true, decide_false, Option.bind_some, Option.bind_none]
    rw [f 9 (by decide) (by omega)]
    simp (disch := omega) only [L_0, L_1, L_2, L_3, L_4, L_5, L_6, L_7, L_8, L_9, L_10, L_11, L_12, L_13, L_14, L_15, L_16, L_17, L_18, L_19, L_20, L_21, L_22, L_23, L_24, L_25, L_26, L_27, L_28, L_29, L_30, L_31, L_32, L_33, L_34, L_35, L_40, L_41, L_42, L_43, L_44, L_45, L_47, L_48, L_50, L_53, L_57, L_59, L_60, L_61, L_63, L_64, L_97, L_100, L_101, L_102, L_103, L_122, L_130, L_216, L_255, L_364, L_400, L_402, L_420, L_728, L_768, L_999, L_1000, L_1093, L_1872, L_2000, L_9999, L_12345, L_252645135, L_858993459, L_1103515245, L_1431655765, Lm_1, Lm_2, Lm_8, N_zero, N_cast, N_add, N_mul, N_sub, N_addM, N_lt_tp, N_lt_fp, N_le_tp, N_le_fp, N_eq_tp, N_eq_fp, MN_ltp, MN_lep, NM_ltp, NM_lep, NM_eqp, MN_eqp, MM_lt_tp, MM_lt_fp, MM_le_tp, MM_le_fp, MM_eq_tp, MM_eq_fp, N_cl, N_in_t, N_in_f, M_in, N_div, N_rem, N_nb0, N_nb1, cond_true, cond_false, Bool.not_true, Bool.not_false, Bool.and_true, Bool.true_and, Bool.and_false, Bool.false_and, decide_true, decide_false, Option.bind_some, Option.bind_none]
    rw [f 10 (by decide) (by omega)]
    simp (disch := omega) only [L_0, L_1, L_2, L_3, L_4, L_5, L_6, L_7, L_8, L_9, L_10, L_11, L_12, L_13, L_14, L_15, L_16, L_17, L_18, L_19, L_20, L_21, L_22, L_23, L_24, L_25, L_26, L_27, L_28, L_29, L_30, L_31, L_32, L_33, L_34, L_35, L_40, L_41, L_42, L_43, L_44, L_45, L_47, L_48, L_50, L_53, L_57, L_59, L_60, L_61, L_63, L_64, L_97, L_100, L_101, L_102, L_103, L_122, L_130, L_216, L_255, L_364, L_400, L_402, L_420, L_728, L_768, L_999, L_1000, L_1093, L_1872, L_2000, L_9999, L_12345, L_252645135, L_858993459, L_1103515245, L_1431655765, Lm_1, Lm_2, Lm_8, N_zero, N_cast, N_add, N_mul, N_sub, N_addM, N_lt_tp, N_lt_fp, N_le_tp, N_le_fp, N_eq_tp, N_eq_fp, MN_ltp, MN_lep, NM_ltp, NM_lep, NM_eqp, MN_eqp, MM_lt_tp, MM_lt_fp, MM_le_tp, MM_le_fp, MM_eq_tp, MM_eq_fp, N_cl, N_in_t, N_in_f, M_in, N_div, N_rem, N_nb0, N_nb1, cond_true, cond_false, Bool.not_true, Bool.not_false, Bool.and_true, Bool.true_and, Bool.and_false, Bool.false_and, decide_true, decide_false, Option.bind_some, Option.bind_none]
    rw [t 15 (by decide) e]
    simp (disch := omega) only [L_0, L_1, L_2, L_3, L_4, L_5, L_6, L_7, L_8, L_9, L_10, L_11, L_12, L_13, L_14, L_15, L_16, L_17, L_18, L_19, L_20, L_21, L_22, L_23, L_24, L_25, L_26, L_27, L_28, L_29, L_30, L_31, L_32, L_33, L_34, L_35, L_40, L_41, L_42, L_43, L_44, L_45, L_47, L_48, L_50, L_53, L_57, L_59, L_60, L_61, L_63, L_64, L_97, L_100, L_101, L_102, L_103, L_122, L_130, L_216, L_255, L_364, L_400, L_402, L_420, L_728, L_768, L_999, L_1000, L_1093, L_1872, L_2000, L_9999, L_12345, L_252645135, L_858993459, L_1103515245, L_1431655765, Lm_1, Lm_2, Lm_8, N_zero, N_cast, N_add, N_mul, N_sub, N_addM, N_lt_tp, N_lt_fp, N_le_tp, N_le_fp, N_eq_tp, N_eq_fp, MN_ltp, MN_lep, NM_ltp, NM_lep, NM_eqp, MN_eqp, MM_lt_tp, MM_lt_fp, MM_le_tp, MM_le_fp, MM_eq_tp, MM_eq_fp, N_cl, N_in_t, N_in_f, M_in, N_div, N_rem, N_nb0, N_nb1, cond_true, cond_false, Bool.not_true, Bool.not_false, Bool.and_true, Bool.true_and, Bool.and_false, Bool.false_and, decide_true, decide_false, Option.bind_some, Option.bind_none]
    rw [q_M_expression_L186_eq]
    simp only [L_0, L_1, L_2, L_3, L_4, L_5, L_6, L_7, L_8, L_9, L_10, L_11, L_12, L_13, L_14, L_15, L_16, L_17, L_18, L_19, L_20, L_21, L_22, L_23, L_24, L_25, L_26, L_27, L_28, L_29, L_30, L_31, L_32, L_33, L_34, L_35, L_40, L_41, L_42, L_43, L_44, L_45, L_47, L_48, L_50, L_53, L_57, L_59, L_60, L_61, L_63, L_64, L_97, L_100, L_101, L_102, L_103, L_122, L_130, L_216, L_255, L_364, L_400, L_402, L_420, L_728, L_768, L_999, L_1000, L_1093, L_1872, L_2000, L_9999, L_12345, L_252645135, L_858993459, L_1103515245, L_1431655765, Lm_1, Lm_2, Lm_8]
    rw [f 10 (by decide) (by omega)]
    simp (disch := omega) only [L_0, L_1, L_2, L_3, L_4, L_5, L_6, L_7, L_8, L_9, L_10, L_11, L_12, L_13, L_14, L_15, L_16, L_17, L_18, L_19, L_20, L_21, L_22, L_23, L_24, L_25, L_26, L_27, L_28, L_29, L_30, L_31, L_32, L_33, L_34, L_35, L_40, L_41, L_42, L_43, L_44, L_45, L_47, L_48, L_50, L_53, L_57, L_59, L_60, L_61, L_63, L_64, L_97, L_100, L_101, L_102, L_103, L_122, L_130, L_216, L_255, L_364, L_400, L_402, L_420, L_728, L_768, L_999, L_1000, L_1093, L_1872, L_2000, L_9999, L_12345, L_252645135, L_858993459, L_1103515245, L_1431655765, Lm_1, Lm_2, Lm_8, N_zero, N_cast, N_add, N_mul, N_sub, N_addM, N_lt_tp, N_lt_fp, N_le_tp, N_le_fp, N_eq_tp, N_eq_fp, MN_ltp, MN_lep, NM_ltp, NM_lep, NM_eqp, MN_eqp, MM_lt_tp, MM_lt_fp, MM_le_tp, MM_le_fp, MM_eq_tp, MM_eq_fp, N_cl, N_in_t, N_in_f, M_in, N_div, N_rem, N_nb0, N_nb1, cond_true, cond_false, Bool.not_true, Bool.not_false, Bool.and_true, Bool.true_and, Bool.and_false, Bool.false_and, decide_true, decide_false, Option.bind_some, Option.bind_none]
    rw [t 15 (by decide) e, e]
    simp (disch := omega) only [L_0, L_1, L_2, L_3, L_4, L_5, L_6, L_7, L_8, L_9, L_10, L_11, L_12, L_13, L_14, L_15, L_16, L_17, L_18, L_19, L_20, L_21, L_22, L_23, L_24, L_25, L_26, L_27, L_28, L_29, L_30, L_31, L_32, L_33, L_34, L_35, L_40, L_41, L_42, L_43, L_44, L_45, L_47, L_48, L_50, L_53, L_57, L_59, L_60, L_61, L_63, L_64, L_97, L_100, L_101, L_102, L_103, L_122, L_130, L_216, L_255, L_364, L_400, L_402, L_420, L_728, L_768, L_999, L_1000, L_1093, L_1872, L_2000, L_9999, L_12345, L_252645135, L_858993459, L_1103515245, L_1431655765, Lm_1, Lm_2, Lm_8, N_zero, N_cast, N_add, N_mul, N_sub, N_addM, N_lt_tp, N_lt_fp, N_le_tp, N_le_fp, N_eq_tp, N_eq_fp, MN_ltp, MN_lep, NM_ltp, NM_lep, NM_eqp, MN_eqp, MM_lt_tp, MM_lt_fp, MM_le_tp, MM_le_fp, MM_eq_tp, MM_eq_fp, N_cl, N_in_t, N_in_f, M_in, N_div, N_rem, N_nb0, N_nb1, cond_true, cond_false, Bool.not_true, Bool.not_false, Bool.and_true, Bool.true_and, Bool.and_false, Bool.false_and, decide_true, decide_false, Option.bind_some, Option.bind_none]
    rfl
theorem M_last {p y o : Nat} {m : wb_H} (ts : TKS kd pl vl) (tm : TKM m kd pl vl) (ok : okT kd p) (lm : LvM p w y m) (hk : ¬ (kd p = 8 ∨ kd p = 9 ∨ kd p = 10 ∨ kd p = 15)) (ho : m.1 21 0 12 = nN o) (o6 : o ≤ 6) (h7 : kd p ≠ 7 ∨ o = 0) : q_M_expression_L96 sc m (nN 0) = if o = 0 then q_M_comesOut sc m (nN 0) else (q_M_fail sc m (nN 1)).bind fun h => q_M_comesOut sc h (nN 0) := by
  have f : ∀ k, k ≤ 100 → kd p ≠ k → q_M_is sc m (nN k) = some (nN 0, m) := fun k h1 h2 => by rw [M_is ts tm ok lm h1, if_neg h2]
  have e : q_M_expression_L96 sc m (nN 0) = q_M_expression_L145 sc m (nN 0) := by
    rw [q_M_expression_L96_eq]
    simp only [L_0, L_1, L_2, L_3, L_4, L_5, L_6, L_7, L_8, L_9, L_10, L_11, L_12, L_13, L_14, L_15, L_16, L_17, L_18, L_19, L_20, L_21, L_22, L_23, L_24, L_25, L_26, L_27, L_28, L_29, L_30, L_31, L_32, L_33, L_34, L_35, L_40, L_41, L_42, L_43, L_44, L_45, L_47, L_48, L_50, L_53, L_57, L_59, L_60, L_61, L_63, L_64, L_97, L_100, L_101, L_102, L_103, L_122, L_130, L_216, L_255, L_364, L_400, L_402, L_420, L_728, L_768, L_999, L_1000, L_1093, L_1872, L_2000, L_9999, L_12345, L_252645135, L_858993459, L_1103515245, L_1431655765, Lm_1, Lm_2, Lm_8]
    rw [M_is ts tm ok lm (show 7 ≤ 100 by decide)]
    by_cases z : kd p = 7
    · have o0 : o = 0 := by omega
      subst o0
      simp (disch := omega) only [L_0, L_1, L_2, L_3, L_4, L_5, L_6, L_7, L_8, L_9, L_10, L_11, L_12, L_13, L_14, L_15, L_16, L_17, L_18, L_19, L_20, L_21, L_22, L_23, L_24, L_25, L_26, L_27, L_28, L_29, L_30, L_31, L_32, L_33, L_34, L_35, L_40, L_41, L_42, L_43, L_44, L_45, L_47, L_48, L_50, L_53, L_57, L_59, L_60, L_61, L_63, L_64, L_97, L_100, L_101, L_102, L_103, L_122, L_130, L_216, L_255, L_364, L_400, L_402, L_420, L_728, L_768, L_999, L_1000, L_1093, L_1872, L_2000, L_9999, L_12345, L_252645135, L_858993459, L_1103515245, L_1431655765, Lm_1, Lm_2, Lm_8, N_zero, N_cast, N_add, N_mul, N_sub, N_addM, N_lt_tp, N_lt_fp, N_le_tp, N_le_fp, N_eq_tp, N_eq_fp, MN_ltp, MN_lep, NM_ltp, NM_lep, NM_eqp, MN_eqp, MM_lt_tp, MM_lt_fp, MM_le_tp, MM_le_fp, MM_eq_tp, MM_eq_fp, N_cl, N_in_t, N_in_f, M_in, N_div, N_rem, N_nb0, N_nb1, cond_true, cond_false, Bool.not_true, Bool.not_false, Bool.and_true, Bool.true_and, Bool.and_false, Bool.false_and, decide_true, decide_false, Option.bind_some, Option.bind_none, if_pos z, ho]
    · simp (disch := omega) only [L_0, L_1, L_2, L_3, L_4, L_5, L_6, L_7, L_8, L_9, L_10, L_11, L_12, L_13, L_14, L_15, L_16, L_17, L_18, L_19, L_20, L_21, L_22, L_23, L_24, L_25, L_26, L_27, L_28, L_29, L_30, L_31, L_32, L_33, L_34, L_35, L_40, L_41, L_42, L_43, L_44, L_45, L_47, L_48, L_50, L_53, L_57, L_59, L_60, L_61, L_63, L_64, L_97, L_100, L_101, L_102, L_103, L_122, L_130, L_216, L_255, L_364, L_400, L_402, L_420, L_728, L_768, L_999, L_1000, L_1093, L_1872, L_2000, L_9999, L_12345, L_252645135, L_858993459, L_1103515245, L_1431655765, Lm_1, Lm_2, Lm_8, N_zero, N_cast, N_add, N_mul, N_sub, N_addM, N_lt_tp, N_lt_fp, N_le_tp, N_le_fp, N_eq_tp, N_eq_fp, MN_ltp, MN_lep, NM_ltp, NM_lep, NM_eqp, MN_eqp, MM_lt_tp, MM_lt_fp, MM_le_tp, MM_le_fp, MM_eq_tp, MM_eq_fp, N_cl, N_in_t, N_in_f, M_in, N_div, N_rem, N_nb0, N_nb1, cond_true, cond_false, Bool.not_true, Bool.not_false, Bool.and_true, Bool.true_and, Bool.and_false, Bool.false_and, decide_true, decide_false, Option.bind_some, Option.bind_none, if_neg z]
  rw [e, q_M_expression_L145_eq]
  simp only [L_0, L_1, L_2, L_3, L_4, L_5, L_6, L_7, L_8, L_9, L_10, L_11, L_12, L_13, L_14, L_15, L_16, L_17, L_18, L_19, L_20, L_21, L_22, L_23, L_24, L_25, L_26, L_27, L_28, L_29, L_30, L_31, L_32, L_33, L_34, L_35, L_40, L_41, L_42, L_43, L_44, L_45, L_47, L_48, L_50, L_53, L_57, L_59, L_60, L_61, L_63, L_64, L_97, L_100, L_101, L_102, L_103, L_122, L_130, L_216, L_255, L_364, L_400, L_402, L_420, L_728, L_768, L_999, L_1000, L_1093, L_1872, L_2000, L_9999, L_12345, L_252645135, L_858993459, L_1103515245, L_1431655765, Lm_1, Lm_2, Lm_8]
  rw [f 8 (by decide) (by omega)]
  simp (disch := omega) only [L_0, L_1, L_2, L_3, L_4, L_5, L_6, L_7, L_8, L_9, L_10, L_11, L_12, L_13, L_14, L_15, L_16, L_17, L_18, L_19, L_20, L_21, L_22, L_23, L_24, L_25, L_26, L_27, L_28, L_29, L_30, L_31, L_32, L_33, L_34, L_35, L_40, L_41, L_42, L_43, L_44, L_45, L_47, L_48, L_50, L_53, L_57, L_59, L_60, L_61, L_63, L_64, L_97, L_100, L_101, L_102, L_103, L_122, L_130, L_216, L_255, L_364, L_400, L_402, L_420, L_728, L_768, L_999, L_1000, L_1093, L_1872, L_2000, L_9999, L_12345, L_252645135, L_858993459, L_1103515245, L_1431655765, Lm_1, Lm_2, Lm_8, N_zero, N_cast, N_add, N_mul, N_sub, N_addM, N_lt_tp, N_lt_fp, N_le_tp, N_le_fp, N_eq_tp, N_eq_fp, MN_ltp, MN_lep, NM_ltp, NM_lep, NM_eqp, MN_eqp, MM_lt_tp, MM_lt_fp, MM_le_tp, MM_le_fp, MM_eq_tp, MM_eq_fp, N_cl, N_in_t, N_in_f, M_in, N_div, N_rem, N_nb0, N_nb1, cond_true, cond_false, Bool.not_true, Bool.not_false, Bool.and_true, Bool.true_and, Bool.and_false, Bool.false_and, decide_true, decide_false, Option.bind_some, Option.bind_none]
  rw [f 9 (by decide) (by omega)]
  simp (disch := omega) only [L_0, L_1, L_2, L_3, L_4, L_5, L_6, L_7, L_8, L_9, L_10, L_11, L_12, L_13, L_14, L_15, L_16, L_17, L_18, L_19, L_20, L_21, L_22, L_23, L_24, L_25, L_26, L_27, L_28, L_29, L_30, L_31, L_32, L_33, L_34, L_35, L_40, L_41, L_42, L_43, L_44, L_45, L_47, L_48, L_50, L_53, L_57, L_59, L_60, L_61, L_63, L_64, L_97, L_100, L_101, L_102, L_103, L_122, L_130, L_216, L_255, L_364, L_400, L_402, L_420, L_728, L_768, L_999, L_1000, L_1093, L_1872, L_2000, L_9999, L_12345, L_252645135, L_858993459, L_1103515245, L_1431655765, Lm_1, Lm_2, Lm_8, N_zero, N_cast, N_add, N_mul, N_sub, N_addM, N_lt_tp, N_lt_fp, N_le_tp, N_le_fp, N_eq_tp, N_eq_fp, MN_ltp, MN_lep, NM_ltp, NM_lep, NM_eqp, MN_eqp, MM_lt_tp, MM_lt_fp, MM_le_tp, MM_le_fp, MM_eq_tp, MM_eq_fp, N_cl, N_in_t, N_in_f, M_in, N_div, N_rem, N_nb0, N_nb1, cond_true, cond_false, Bool.not_true, Bool.not_false, Bool.and_true, Bool.true_and, Bool.and_false, Bool.false_and, decide_true, decide_false, Option.bind_some, Option.bind_none]
  rw [f 10 (by decide) (by omega)]
  simp (disch := omega) only [L_0, L_1, L_2, L_3, L_4, L_5, L_6, L_7, L_8, L_9, L_10, L_11, L_12, L_13, L_14, L_15, L_16, L_17, L_18, L_19, L_20, L_21, L_22, L_23, L_24, L_25, L_26, L_27, L_28, L_29, L_30, L_31, L_32, L_33, L_34, L_35, L_40, L_41, L_42, L_43, L_44, L_45, L_47, L_48, L_50, L_53, L_57, L_59, L_60, L_61, L_63, L_64, L_97, L_100, L_101, L_102, L_103, L_122, L_130, L_216, L_255, L_364, L_400, L_402, L_420, L_728, L_768, L_999, L_1000, L_1093, L_1872, L_2000, L_9999, L_12345, L_252645135, L_858993459, L_1103515245, L_1431655765, Lm_1, Lm_2, Lm_8, N_zero, N_cast, N_add, N_mul, N_sub, N_addM, N_lt_tp, N_lt_fp, N_le_tp, N_le_fp, N_eq_tp, N_eq_fp, MN_ltp, MN_lep, NM_ltp, NM_lep, NM_eqp, MN_eqp, MM_lt_tp, MM_lt_fp, MM_le_tp, MM_le_fp, MM_eq_tp, MM_eq_fp, N_cl, N_in_t, N_in_f, M_in, N_div, N_rem, N_nb0, N_nb1, cond_true, cond_false, Bool.not_true, Bool.not_false, Bool.and_true, Bool.true_and, Bool.and_false, Bool.false_and, decide_true, decide_false, Option.bind_some, Option.bind_none]
  rw [f 15 (by decide) (by omega)]
  simp (disch := omega) only [L_0, L_1, L_2, L_3, L_4, L_5, L_6, L_7, L_8, L_9, L_10, L_11, L_12, L_13, L_14, L_15, L_16, L_17, L_18, L_19, L_20, L_21, L_22, L_23, L_24, L_25, L_26, L_27, L_28, L_29, L_30, L_31, L_32, L_33, L_34, L_35, L_40, L_41, L_42, L_43, L_44, L_45, L_47, L_48, L_50, L_53, L_57, L_59, L_60, L_61, L_63, L_64, L_97, L_100, L_101, L_102, L_103, L_122, L_130, L_216, L_255, L_364, L_400, L_402, L_420, L_728, L_768, L_999, L_1000, L_1093, L_1872, L_2000, L_9999, L_12345, L_252645135, L_858993459, L_1103515245, L_1431655765, Lm_1, Lm_2, Lm_8, N_zero, N_cast, N_add, N_mul, N_sub, N_addM, N_lt_tp, N_lt_fp, N_le_tp, N_le_fp, N_eq_tp, N_eq_fp, MN_ltp, MN_lep, NM_ltp, NM_lep, NM_eqp, MN_eqp, MM_lt_tp, MM_lt_fp, MM_le_tp, MM_le_fp, MM_eq_tp, MM_eq_fp, N_cl, N_in_t, N_in_f, M_in, N_div, N_rem, N_nb0, N_nb1, cond_true, cond_false, Bool.not_true, Bool.not_false, Bool.and_true, Bool.true_and, Bool.and_false, Bool.false_and, decide_true, decide_false, Option.bind_some, Option.bind_none]
  rw [q_M_expression_L186_eq]
  by_cases z : o = 0
  · subst z
    simp (disch := omega) only [L_0, L_1, L_2, L_3, L_4, L_5, L_6, L_7, L_8, L_9, L_10, L_11, L_12, L_13, L_14, L_15, L_16, L_17, L_18, L_19, L_20, L_21, L_22, L_23, L_24, L_25, L_26, L_27, L_28, L_29, L_30, L_31, L_32, L_33, L_34, L_35, L_40, L_41, L_42, L_43, L_44, L_45, L_47, L_48, L_50, L_53, L_57, L_59, L_60, L_61, L_63, L_64, L_97, L_100, L_101, L_102, L_103, L_122, L_130, L_216, L_255, L_364, L_400, L_402, L_420, L_728, L_768, L_999, L_1000, L_1093, L_1872, L_2000, L_9999, L_12345, L_252645135, L_858993459, L_1103515245, L_1431655765, Lm_1, Lm_2, Lm_8, N_zero, N_cast, N_add, N_mul, N_sub, N_addM, N_lt_tp, N_lt_fp, N_le_tp, N_le_fp, N_eq_tp, N_eq_fp, MN_ltp, MN_lep, NM_ltp, NM_lep, NM_eqp, MN_eqp, MM_lt_tp, MM_lt_fp, MM_le_tp, MM_le_fp, MM_eq_tp, MM_eq_fp, N_cl, N_in_t, N_in_f, M_in, N_div, N_rem, N_nb0, N_nb1, cond_true, cond_false, Bool.not_true, Bool.not_false, Bool.and_true, Bool.true_and, Bool.and_false, Bool.false_and, decide_true, decide_false, Option.bind_some, Option.bind_none, ho, bnd_some, if_true]
  · rw [if_neg z]
    simp (disch := omega) only [L_0, L_1, L_2, L_3, L_4, L_5, L_6, L_7, L_8, L_9, L_10, L_11, L_12, L_13, L_14, L_15, L_16, L_17, L_18, L_19, L_20, L_21, L_22, L_23, L_24, L_25, L_26, L_27, L_28, L_29, L_30, L_31, L_32, L_33, L_34, L_35, L_40, L_41, L_42, L_43, L_44, L_45, L_47, L_48, L_50, L_53, L_57, L_59, L_60, L_61, L_63, L_64, L_97, L_100, L_101, L_102, L_103, L_122, L_130, L_216, L_255, L_364, L_400, L_402, L_420, L_728, L_768, L_999, L_1000, L_1093, L_1872, L_2000, L_9999, L_12345, L_252645135, L_858993459, L_1103515245, L_1431655765, Lm_1, Lm_2, Lm_8, N_zero, N_cast, N_add, N_mul, N_sub, N_addM, N_lt_tp, N_lt_fp, N_le_tp, N_le_fp, N_eq_tp, N_eq_fp, MN_ltp, MN_lep, NM_ltp, NM_lep, NM_eqp, MN_eqp, MM_lt_tp, MM_lt_fp, MM_le_tp, MM_le_fp, MM_eq_tp, MM_eq_fp, N_cl, N_in_t, N_in_f, M_in, N_div, N_rem, N_nb0, N_nb1, cond_true, cond_false, Bool.not_true, Bool.not_false, Bool.and_true, Bool.true_and, Bool.and_false, Bool.false_and, decide_true, decide_false, Option.bind_some, Option.bind_none, ho, bnd_some]
theorem ls_expr : ∀ n p cs ws o i x m, 401 ≤ p + n → i ≤ p → EI q s kd pl vl z0 y0 w p cs ws o x m → (dpt 0 cs = binW ws → Both (q_Reader_parseSum_L14 sc x (nN o) (nN 1) (nN 0) (nN i)) (q_M_expression_L23 sc m (nN 0)) (Fin p q s kd pl z0 y0 w x m)) ∧ (dpt 0 cs = binW ws + 1 → Both (q_Reader_parseSum_L14 sc x (nN o) (nN 0) (nN 0) (nN i)) (q_M_expression_L96 sc m (nN 0)) (Fin p q s kd pl z0 y0 w x m)) := by
  intro n
  induction n with
  | zero =>
    intro p cs ws o i x m hn hi I
    exfalso
    obtain ⟨y, hy, ok, -⟩ := I.2.1
    have := ok.1
    omega
  | succ n ih =>
    intro p cs ws o i x m hn hi I
    have I' := I
    obtain ⟨E, H, C, W, o1, o2, o3, l1, l2, l3, P⟩ := I'
    have H' := H
    obtain ⟨y, hy, ok, w5, y2, lx, lm⟩ := H'
    have p4 := ok.1
    have lx2 := lx.2.1
    have lx3 := lx.2.2.1
    have lm2 := lm.2.1
    have lw := len_W ws
    have sb := shp_bin W.2.2.2.2
    have tl := tbW_le ws
    have dz : Dz q x := ⟨_, by omega, C.1⟩
    obtain ⟨kb1, kb2⟩ := okB_of (E.1.1 p)
    have kl := kap_le (E.1.1 p)
    have m2 := E.2.2.2.2.1
    have ms := E.2.2.2.2.2.1
    refine ⟨fun hd => ?_, fun hd => ?_⟩
    · rw [q_Reader_parseSum_L14_eq, q_M_expression_L23_eq]
      by_cases z : kd p = 6
      · have k40 : nN (kap (kd p)) = nN 40 := by rw [z]; rfl
        have k0 : kd p ≠ 0 := by omega
        have k3 : kd p ≠ 3 := by omega
        -- a ( more
        by_cases z6 : o = 6
        · simp (disch := omega) only [L_0, L_1, L_2, L_3, L_4, L_5, L_6, L_7, L_8, L_9, L_10, L_11, L_12, L_13, L_14, L_15, L_16, L_17, L_18, L_19, L_20, L_21, L_22, L_23, L_24, L_25, L_26, L_27, L_28, L_29, L_30, L_31, L_32, L_33, L_34, L_35, L_40, L_41, L_42, L_43, L_44, L_45, L_47, L_48, L_50, L_53, L_57, L_59, L_60, L_61, L_63, L_64, L_97, L_100, L_101, L_102, L_103, L_122, L_130, L_216, L_255, L_364, L_400, L_402, L_420, L_728, L_768, L_999, L_1000, L_1093, L_1872, L_2000, L_9999, L_12345, L_252645135, L_858993459, L_1103515245, L_1431655765, Lm_1, Lm_2, Lm_8, N_zero, N_cast, N_add, N_mul, N_sub, N_addM, N_lt_tp, N_lt_fp, N_le_tp, N_le_fp, N_eq_tp, N_eq_fp, MN_ltp, MN_lep, NM_ltp, NM_lep, NM_eqp, MN_eqp, MM_lt_tp, MM_lt_fp, MM_le_tp, MM_le_fp, MM_eq_tp, MM_eq_fp, N_cl, N_in_t, N_in_f, M_in, N_div, N_rem, N_nb0, N_nb1, cond_true, cond_false, Bool.not_true, Bool.not_false, Bool.and_true, Bool.true_and, Bool.and_false, Bool.false_and, decide_true, decide_false, Option.bind_some, Option.bind_none, lx2, lx3, k40, M_is E.1 ms ok lm (show 6 ≤ 100 by decide), if_pos z, o1]
          refine Both_bind (ls_fail E H (n := 2) (by decide) (by decide)) ?_
          rintro x1 m1 ⟨F, G, D⟩
          have D' := D
          obtain ⟨f, e, he, D1, D2⟩ := D'
          rw [q_Reader_takeAndWait_eq, dX_take D1, q_M_expression_L46_eq]
          have x5 : x1.1 16 0 5 = nN ws.length := (Fr_i F (by rfl)).trans W.1
          have m5 : m1.1 21 0 43 = nN ws.length := (Fr_i G (by rfl)).trans W.2.1
          simp (disch := omega) only [L_0, L_1, L_2, L_3, L_4, L_5, L_6, L_7, L_8, L_9, L_10, L_11, L_12, L_13, L_14, L_15, L_16, L_17, L_18, L_19, L_20, L_21, L_22, L_23, L_24, L_25, L_26, L_27, L_28, L_29, L_30, L_31, L_32, L_33, L_34, L_35, L_40, L_41, L_42, L_43, L_44, L_45, L_47, L_48, L_50, L_53, L_57, L_59, L_60, L_61, L_63, L_64, L_97, L_100, L_101, L_102, L_103, L_122, L_130, L_216, L_255, L_364, L_400, L_402, L_420, L_728, L_768, L_999, L_1000, L_1093, L_1872, L_2000, L_9999, L_12345, L_252645135, L_858993459, L_1103515245, L_1431655765, Lm_1, Lm_2, Lm_8, N_zero, N_cast, N_add, N_mul, N_sub, N_addM, N_lt_tp, N_lt_fp, N_le_tp, N_le_fp, N_eq_tp, N_eq_fp, MN_ltp, MN_lep, NM_ltp, NM_lep, NM_eqp, MN_eqp, MM_lt_tp, MM_lt_fp, MM_le_tp, MM_le_fp, MM_eq_tp, MM_eq_fp, N_cl, N_in_t, N_in_f, M_in, N_div, N_rem, N_nb0, N_nb1, cond_true, cond_false, Bool.not_true, Bool.not_false, Bool.and_true, Bool.true_and, Bool.and_false, Bool.false_and, decide_true, decide_false, Option.bind_some, Option.bind_none, x5, iu_nt (show 16 ≠ 53 by decide)]
          have F2 : Fr [53, 4005] x1 (wb_iu (wb_iu x1 53 0 ws.length (nN 40)) 16 0 5 (nN (ws.length + 1))) := Fr_trans (Fr_iu rfl) (Fr_iu rfl)
          have G1 : Fr [1012] m1 (wb_iu m1 21 0 12 (m1.1 21 0 12 + nN 1)) := Fr_iu rfl
          obtain ⟨m3, e3, G3, D3⟩ := mD_go (sc := sc) (DdM_fr G1 rfl rfl D2)
          rw [e3]
          have m53 : m3.1 21 0 43 = nN ws.length := (Fr_i G3 (by rfl)).trans ((Fr_i G1 (by rfl)).trans m5)
          simp (disch := omega) only [L_0, L_1, L_2, L_3, L_4, L_5, L_6, L_7, L_8, L_9, L_10, L_11, L_12, L_13, L_14, L_15, L_16, L_17, L_18, L_19, L_20, L_21, L_22, L_23, L_24, L_25, L_26, L_27, L_28, L_29, L_30, L_31, L_32, L_33, L_34, L_35, L_40, L_41, L_42, L_43, L_44, L_45, L_47, L_48, L_50, L_53, L_57, L_59, L_60, L_61, L_63, L_64, L_97, L_100, L_101, L_102, L_103, L_122, L_130, L_216, L_255, L_364, L_400, L_402, L_420, L_728, L_768, L_999, L_1000, L_1093, L_1872, L_2000, L_9999, L_12345, L_252645135, L_858993459, L_1103515245, L_1431655765, Lm_1, Lm_2, Lm_8, N_zero, N_cast, N_add, N_mul, N_sub, N_addM, N_lt_tp, N_lt_fp, N_le_tp, N_le_fp, N_eq_tp, N_eq_fp, MN_ltp, MN_lep, NM_ltp, NM_lep, NM_eqp, MN_eqp, MM_lt_tp, MM_lt_fp, MM_le_tp, MM_le_fp, MM_eq_tp, MM_eq_fp, N_cl, N_in_t, N_in_f, M_in, N_div, N_rem, N_nb0, N_nb1, cond_true, cond_false, Bool.not_true, Bool.not_false, Bool.and_true, Bool.true_and, Bool.and_false, Bool.false_and, decide_true, decide_false, Option.bind_some, Option.bind_none, m53, iu_nt (show 21 ≠ 92 by decide)]
          have G4 : Fr [92, 1043] m3 (wb_iu (wb_iu m3 92 0 ws.length (nN 6)) 21 0 43 (nN (ws.length + 1))) := Fr_trans (Fr_iu rfl) (Fr_iu rfl)
          rw [mD_L23 (DdM_fr G4 rfl rfl D3)]
          refine Both_of (xd_end (q := q) (w0 := ws.length + 1) (DdX_fr F2 rfl rfl rfl D1) E.2.1 ((Fr_m F2 (by rfl)).trans ((Fr_m F (by rfl)).trans m2)) (Dz_fr F2 rfl (Dz_fr F rfl dz)) (PLn_fr F2 rfl (PLn_fr F rfl P)) iu_at (by omega) _ _ _ _) (⟨_, rfl, rfl⟩ : Ok (some _) (fun b => b = (wb_iu (wb_iu m3 92 0 ws.length (nN 6)) 21 0 43 (nN (ws.length + 1))))) ?_
          rintro x5 m5 ⟨F5, X5, D5, Z5⟩ rfl
          have FG : Fr LCM m (wb_iu (wb_iu m3 92 0 ws.length (nN 6)) 21 0 43 (nN (ws.length + 1))) := Fr_trans (Fr_mono G rfl) (Fr_trans (Fr_mono G1 rfl) (Fr_trans (Fr_mono G3 rfl) (Fr_mono G4 rfl)))
          exact Fin_dead ⟨Fr_trans (Fr_mono F rfl) (Fr_trans (Fr_mono F2 rfl) F5), FX_trans (FX_fr F rfl) (FX_trans (FX_fr F2 rfl) X5), FG, FM_trans (FM_fr G rfl) (FM_trans (FM_fr G1 rfl) (FM_trans (FM_fr G3 rfl) (FM_fr G4 rfl)))⟩ ⟨f, e, he, D5, DdM_fr G4 rfl rfl D3⟩ Z5
        · simp (disch := omega) only [L_0, L_1, L_2, L_3, L_4, L_5, L_6, L_7, L_8, L_9, L_10, L_11, L_12, L_13, L_14, L_15, L_16, L_17, L_18, L_19, L_20, L_21, L_22, L_23, L_24, L_25, L_26, L_27, L_28, L_29, L_30, L_31, L_32, L_33, L_34, L_35, L_40, L_41, L_42, L_43, L_44, L_45, L_47, L_48, L_50, L_53, L_57, L_59, L_60, L_61, L_63, L_64, L_97, L_100, L_101, L_102, L_103, L_122, L_130, L_216, L_255, L_364, L_400, L_402, L_420, L_728, L_768, L_999, L_1000, L_1093, L_1872, L_2000, L_9999, L_12345, L_252645135, L_858993459, L_1103515245, L_1431655765, Lm_1, Lm_2, Lm_8, N_zero, N_cast, N_add, N_mul, N_sub, N_addM, N_lt_tp, N_lt_fp, N_le_tp, N_le_fp, N_eq_tp, N_eq_fp, MN_ltp, MN_lep, NM_ltp, NM_lep, NM_eqp, MN_eqp, MM_lt_tp, MM_lt_fp, MM_le_tp, MM_le_fp, MM_eq_tp, MM_eq_fp, N_cl, N_in_t, N_in_f, M_in, N_div, N_rem, N_nb0, N_nb1, cond_true, cond_false, Bool.not_true, Bool.not_false, Bool.and_true, Bool.true_and, Bool.and_false, Bool.false_and, decide_true, decide_false, Option.bind_some, Option.bind_none, lx2, lx3, k40, M_is E.1 ms ok lm (show 6 ≤ 100 by decide), if_pos z, o1]
          rw [q_Reader_takeAndWait_eq, q_M_expression_L46_eq, o1, Option.bind_assoc]
          simp (disch := omega) only [L_0, L_1, L_2, L_3, L_4, L_5, L_6, L_7, L_8, L_9, L_10, L_11, L_12, L_13, L_14, L_15, L_16, L_17, L_18, L_19, L_20, L_21, L_22, L_23, L_24, L_25, L_26, L_27, L_28, L_29, L_30, L_31, L_32, L_33, L_34, L_35, L_40, L_41, L_42, L_43, L_44, L_45, L_47, L_48, L_50, L_53, L_57, L_59, L_60, L_61, L_63, L_64, L_97, L_100, L_101, L_102, L_103, L_122, L_130, L_216, L_255, L_364, L_400, L_402, L_420, L_728, L_768, L_999, L_1000, L_1093, L_1872, L_2000, L_9999, L_12345, L_252645135, L_858993459, L_1103515245, L_1431655765, Lm_1, Lm_2, Lm_8, N_zero, N_cast, N_add, N_mul, N_sub, N_addM, N_lt_tp, N_lt_fp, N_le_tp, N_le_fp, N_eq_tp, N_eq_fp, MN_ltp, MN_lep, NM_ltp, NM_lep, NM_eqp, MN_eqp, MM_lt_tp, MM_lt_fp, MM_le_tp, MM_le_fp, MM_eq_tp, MM_eq_fp, N_cl, N_in_t, N_in_f, M_in, N_div, N_rem, N_nb0, N_nb1]
          have G1 : Fr [1012] m (wb_iu m 21 0 12 (nN (o + 1))) := Fr_iu rfl
          have E1 := En_f (FX_refl q x) (FM_fr G1 rfl) E
          have H1 : Live kd pl p w x (wb_iu m 21 0 12 (nN (o + 1))) := Live_fr (Fr_refl [] x) G1 rfl rfl H
          rw [← k40]
          refine Both_bind (ls_go E1 H1 k0 k3) ?_
          rintro x2 m3 ⟨F2, G2, h⟩
          have x5 : x2.1 16 0 5 = nN ws.length := (Fr_i F2 (by rfl)).trans W.1
          have m5 : m3.1 21 0 43 = nN ws.length := (Fr_i G2 (by rfl)).trans ((Fr_i G1 (by rfl)).trans W.2.1)
          simp (disch := omega) only [L_0, L_1, L_2, L_3, L_4, L_5, L_6, L_7, L_8, L_9, L_10, L_11, L_12, L_13, L_14, L_15, L_16, L_17, L_18, L_19, L_20, L_21, L_22, L_23, L_24, L_25, L_26, L_27, L_28, L_29, L_30, L_31, L_32, L_33, L_34, L_35, L_40, L_41, L_42, L_43, L_44, L_45, L_47, L_48, L_50, L_53, L_57, L_59, L_60, L_61, L_63, L_64, L_97, L_100, L_101, L_102, L_103, L_122, L_130, L_216, L_255, L_364, L_400, L_402, L_420, L_728, L_768, L_999, L_1000, L_1093, L_1872, L_2000, L_9999, L_12345, L_252645135, L_858993459, L_1103515245, L_1431655765, Lm_1, Lm_2, Lm_8, N_zero, N_cast, N_add, N_mul, N_sub, N_addM, N_lt_tp, N_lt_fp, N_le_tp, N_le_fp, N_eq_tp, N_eq_fp, MN_ltp, MN_lep, NM_ltp, NM_lep, NM_eqp, MN_eqp, MM_lt_tp, MM_lt_fp, MM_le_tp, MM_le_fp, MM_eq_tp, MM_eq_fp, N_cl, N_in_t, N_in_f, M_in, N_div, N_rem, N_nb0, N_nb1, cond_true, cond_false, Bool.not_true, Bool.not_false, Bool.and_true, Bool.true_and, Bool.and_false, Bool.false_and, decide_true, decide_false, Option.bind_some, Option.bind_none, x5, m5, iu_nt (show 16 ≠ 53 by decide), iu_nt (show 21 ≠ 92 by decide)]
          have W2 : Wt ws x2 m3 := Wt_fr F2 (Fr_trans (Fr_mono G1 rfl) (Fr_mono G2 rfl : Fr [1011, 1012, 1013, 1014] _ _)) rfl rfl W
          have W3 := Wt_push (k := 6) W2 (Or.inl rfl) (fun e => absurd rfl e)
          rw [z]
          generalize ex3 : wb_iu (wb_iu x2 53 0 ws.length (nN (kap 6))) 16 0 5 (nN (ws.length + 1)) = x4 at *
          generalize em4 : wb_iu (wb_iu m3 92 0 ws.length (nN 6)) 21 0 43 (nN (ws.length + 1)) = m4 at *
          have F3 : Fr [53, 4005] x2 x4 := by rw [← ex3]; exact Fr_trans (Fr_iu rfl) (Fr_iu rfl)
          have G3 : Fr [92, 1043] m3 m4 := by rw [← em4]; exact Fr_trans (Fr_iu rfl) (Fr_iu rfl)
          have cs1 : CS q s x m x4 m4 := ⟨Fr_trans (Fr_mono F2 rfl) (Fr_mono F3 rfl), FX_trans (FX_fr F2 rfl) (FX_fr F3 rfl), Fr_trans (Fr_mono G1 rfl) (Fr_trans (Fr_mono G2 rfl) (Fr_mono G3 rfl)), FM_trans (FM_fr G1 rfl) (FM_trans (FM_fr G2 rfl) (FM_fr G3 rfl))⟩
          have FF : Fr [53, 4003, 4004, 4005, 4008, 4009] x x4 := Fr_trans (Fr_mono F2 rfl) (Fr_mono F3 rfl)
          have GG : Fr [92, 1011, 1012, 1013, 1014, 1043] m m4 := Fr_trans (Fr_mono G1 rfl) (Fr_trans (Fr_mono G2 rfl) (Fr_mono G3 rfl))
          rcases h with h | h
          · have e12 : m4.1 21 0 12 = nN (o + 1) := (Fr_i G3 (by rfl)).trans ((Fr_i G2 (by rfl)).trans iu_at)
            have I2 : EI q s kd pl vl z0 y0 w (p + 1) cs (6 :: ws) (o + 1) x4 m4 := ⟨En_f cs1.2.1 cs1.2.2.2 E, Live_fr F3 G3 rfl rfl h, Cd_fr FF GG rfl rfl C, W3, e12, by show opnW ws + (if (6 : Nat) = 6 then 1 else 0) = o + 1; rw [if_pos rfl, o2], by omega, by show z0 + cs.length + (binW ws + (if (6 : Nat) = 6 then 0 else 1)) ≤ p + 1; rw [if_pos rfl]; omega, l2, by show y0 + cs.length + (binW ws + (if (6 : Nat) = 6 then 0 else 1)) ≤ 420 * s + (p + 1); rw [if_pos rfl]; omega, PLn_fr FF rfl P⟩
            refine Both_w ((ih (p + 1) cs (6 :: ws) (o + 1) (i + 1) x4 m4 (by omega) (by omega) I2).1 (by show dpt 0 cs = binW ws + (if (6 : Nat) = 6 then 0 else 1); rw [if_pos rfl, hd, Nat.add_zero])) ?_
            intro x6 m6 h6
            exact Fin_trans (by omega) cs1 (Kp_fr FF rfl) (Km_fr GG rfl) h6
          · obtain ⟨f, e, he, D1, D2⟩ := Dead_fr F3 G3 rfl rfl h
            rw [mD_L23 D2]
            refine Both_of (xd_end (q := q) (w0 := ws.length + 1) D1 E.2.1 ((Fr_m FF (by rfl)).trans m2) (Dz_fr FF rfl dz) (PLn_fr FF rfl P) W3.1 (by omega) _ _ _ _) (⟨_, rfl, rfl⟩ : Ok (some m4) (fun b => b = m4)) ?_
            rintro x5 m5 ⟨F5, X5, D5, Z5⟩ rfl
            exact Fin_dead (CS_trans cs1 (CS_x F5 X5)) ⟨f, e, he, D5, D2⟩ Z5
      · have n40 := kap_u4 _ kb2 kb1 z
        simp (disch := omega) only [L_0, L_1, L_2, L_3, L_4, L_5, L_6, L_7, L_8, L_9, L_10, L_11, L_12, L_13, L_14, L_15, L_16, L_17, L_18, L_19, L_20, L_21, L_22, L_23, L_24, L_25, L_26, L_27, L_28, L_29, L_30, L_31, L_32, L_33, L_34, L_35, L_40, L_41, L_42, L_43, L_44, L_45, L_47, L_48, L_50, L_53, L_57, L_59, L_60, L_61, L_63, L_64, L_97, L_100, L_101, L_102, L_103, L_122, L_130, L_216, L_255, L_364, L_400, L_402, L_420, L_728, L_768, L_999, L_1000, L_1093, L_1872, L_2000, L_9999, L_12345, L_252645135, L_858993459, L_1103515245, L_1431655765, Lm_1, Lm_2, Lm_8, N_zero, N_cast, N_add, N_mul, N_sub, N_addM, N_lt_tp, N_lt_fp, N_le_tp, N_le_fp, N_eq_tp, N_eq_fp, MN_ltp, MN_lep, NM_ltp, NM_lep, NM_eqp, MN_eqp, MM_lt_tp, MM_lt_fp, MM_le_tp, MM_le_fp, MM_eq_tp, MM_eq_fp, N_cl, N_in_t, N_in_f, M_in, N_div, N_rem, N_nb0, N_nb1, cond_true, cond_false, Bool.not_true, Bool.not_false, Bool.and_true, Bool.true_and, Bool.and_false, Bool.false_and, decide_true, decide_false, Option.bind_some, Option.bind_none, lx2, lx3, M_is E.1 ms ok lm (show 6 ≤ 100 by decide), if_neg z]
        refine Both_bind (ls_unit E H C (by omega) (by omega) l2 (by omega)) ?_
        rintro x1 m1 ⟨F, X, G, M, h⟩
        have cs1 : CS q s x m x1 m1 := ⟨Fr_mono F rfl, X, Fr_mono G rfl, M⟩
        have W1 : Wt ws x1 m1 := Wt_fr F G rfl rfl W
        rcases h with ⟨c, hc, H1, C1, K1, J1⟩ | ⟨D, Z⟩
        · have lm13 : m1.1 21 0 13 = nN 0 := by
            obtain ⟨y, hy, o, w5, y2, lx, lm⟩ := H1
            exact lm.2.1
          simp (disch := omega) only [L_0, L_1, L_2, L_3, L_4, L_5, L_6, L_7, L_8, L_9, L_10, L_11, L_12, L_13, L_14, L_15, L_16, L_17, L_18, L_19, L_20, L_21, L_22, L_23, L_24, L_25, L_26, L_27, L_28, L_29, L_30, L_31, L_32, L_33, L_34, L_35, L_40, L_41, L_42, L_43, L_44, L_45, L_47, L_48, L_50, L_53, L_57, L_59, L_60, L_61, L_63, L_64, L_97, L_100, L_101, L_102, L_103, L_122, L_130, L_216, L_255, L_364, L_400, L_402, L_420, L_728, L_768, L_999, L_1000, L_1093, L_1872, L_2000, L_9999, L_12345, L_252645135, L_858993459, L_1103515245, L_1431655765, Lm_1, Lm_2, Lm_8, N_zero, N_cast, N_add, N_mul, N_sub, N_addM, N_lt_tp, N_lt_fp, N_le_tp, N_le_fp, N_eq_tp, N_eq_fp, MN_ltp, MN_lep, NM_ltp, NM_lep, NM_eqp, MN_eqp, MM_lt_tp, MM_lt_fp, MM_le_tp, MM_le_fp, MM_eq_tp, MM_eq_fp, N_cl, N_in_t, N_in_f, M_in, N_div, N_rem, N_nb0, N_nb1, cond_true, cond_false, Bool.not_true, Bool.not_false, Bool.and_true, Bool.true_and, Bool.and_false, Bool.false_and, decide_true, decide_false, Option.bind_some, Option.bind_none, lm13]
          have ln : (cs ++ [c]).length = cs.length + 1 := by rw [List.length_append]; rfl
          have dn : dpt 0 (cs ++ [c]) = binW ws + 1 := by rw [dpt_snoc, if_pos hc, hd]
          have I2 : EI q s kd pl vl z0 y0 w (p + 1) (cs ++ [c]) ws o x1 m1 := ⟨En_f X M E, H1, C1, W1, (Fr_i G (by rfl)).trans o1, o2, o3, by omega, l2, by omega, PLn_fr F rfl P⟩
          refine Both_w ((ih (p + 1) (cs ++ [c]) ws o (i + 1) x1 m1 (by omega) (by omega) I2).2 dn) ?_
          intro x6 m6 h6
          exact Fin_trans (by omega) cs1 K1 J1 h6
        · obtain ⟨f, e, he, D1, D2⟩ := D
          have d0 := D2.1
          have d5 := D2.2.1
          have d13 := D2.2.2.1
          simp (disch := omega) only [L_0, L_1, L_2, L_3, L_4, L_5, L_6, L_7, L_8, L_9, L_10, L_11, L_12, L_13, L_14, L_15, L_16, L_17, L_18, L_19, L_20, L_21, L_22, L_23, L_24, L_25, L_26, L_27, L_28, L_29, L_30, L_31, L_32, L_33, L_34, L_35, L_40, L_41, L_42, L_43, L_44, L_45, L_47, L_48, L_50, L_53, L_57, L_59, L_60, L_61, L_63, L_64, L_97, L_100, L_101, L_102, L_103, L_122, L_130, L_216, L_255, L_364, L_400, L_402, L_420, L_728, L_768, L_999, L_1000, L_1093, L_1872, L_2000, L_9999, L_12345, L_252645135, L_858993459, L_1103515245, L_1431655765, Lm_1, Lm_2, Lm_8, N_zero, N_cast, N_add, N_mul, N_sub, N_addM, N_lt_tp, N_lt_fp, N_le_tp, N_le_fp, N_eq_tp, N_eq_fp, MN_ltp, MN_lep, NM_ltp, NM_lep, NM_eqp, MN_eqp, MM_lt_tp, MM_lt_fp, MM_le_tp, MM_le_fp, MM_eq_tp, MM_eq_fp, N_cl, N_in_t, N_in_f, M_in, N_div, N_rem, N_nb0, N_nb1, cond_true, cond_false, Bool.not_true, Bool.not_false, Bool.and_true, Bool.true_and, Bool.and_false, Bool.false_and, decide_true, decide_false, Option.bind_some, Option.bind_none, d13]
          refine Both_of (xd_end (q := q) (w0 := ws.length) D1 E.2.1 ((Fr_m F (by rfl)).trans m2) Z (PLn_fr F rfl P) W1.1 (by omega) _ _ _ _) (⟨_, rfl, rfl⟩ : Ok (some m1) (fun b => b = m1)) ?_
          rintro x5 m5 ⟨F5, X5, D5, Z5⟩ rfl
          exact Fin_dead (CS_trans cs1 (CS_x F5 X5)) ⟨f, e, he, D5, D2⟩ Z5
    · rw [q_Reader_parseSum_L14_eq]
      by_cases z : kd p = 8 ∨ kd p = 9 ∨ kd p = 10 ∨ kd p = 15
      · have b1 : bnk (kd p) = 1 ∨ bnk (kd p) = 2 := by
          rcases z with e | e | e | e <;> rw [e]
          · exact Or.inl rfl
          · exact Or.inl rfl
          · exact Or.inr rfl
          · exact Or.inr rfl
        have wk : okW (kd p) := by unfold okW; omega
        have k0 : kd p ≠ 0 := by omega
        have k3 : kd p ≠ 3 := by omega
        rw [M_route E.1 ms ok lm z, q_M_expression_L234_eq]
        simp (disch := omega) only [L_0, L_1, L_2, L_3, L_4, L_5, L_6, L_7, L_8, L_9, L_10, L_11, L_12, L_13, L_14, L_15, L_16, L_17, L_18, L_19, L_20, L_21, L_22, L_23, L_24, L_25, L_26, L_27, L_28, L_29, L_30, L_31, L_32, L_33, L_34, L_35, L_40, L_41, L_42, L_43, L_44, L_45, L_47, L_48, L_50, L_53, L_57, L_59, L_60, L_61, L_63, L_64, L_97, L_100, L_101, L_102, L_103, L_122, L_130, L_216, L_255, L_364, L_400, L_402, L_420, L_728, L_768, L_999, L_1000, L_1093, L_1872, L_2000, L_9999, L_12345, L_252645135, L_858993459, L_1103515245, L_1431655765, Lm_1, Lm_2, Lm_8, N_zero, N_cast, N_add, N_mul, N_sub, N_addM, N_lt_tp, N_lt_fp, N_le_tp, N_le_fp, N_eq_tp, N_eq_fp, MN_ltp, MN_lep, NM_ltp, NM_lep, NM_eqp, MN_eqp, MM_lt_tp, MM_lt_fp, MM_le_tp, MM_le_fp, MM_eq_tp, MM_eq_fp, N_cl, N_in_t, N_in_f, M_in, N_div, N_rem, N_nb0, N_nb1, cond_true, cond_false, Bool.not_true, Bool.not_false, Bool.and_true, Bool.true_and, Bool.and_false, Bool.false_and, decide_true, decide_false, Option.bind_some, Option.bind_none, lx2, lx3, X_bnd x (E.1.1 p)]
        rw [X_emitW_L0, M_comes_L0]
        refine Both_bind (ls_pop b1 E.2.1 E.2.2.1 ws cs x m m2 C W hd (by omega) l2 (by omega) (by omega)) ?_
        rintro x1 m1 ⟨F1, X1, G1, M1, K1, J1, cs', ws', C1, W1, d1, n1, op1, t1⟩
        have lw1 := len_W ws'
        have sb1 := shp_bin W1.2.2.2.2
        have tl1 := tbW_le ws'
        have E1 := En_f X1 M1 E
        have H1 := Live_fr F1 G1 rfl rfl H
        have x4 : x1.1 16 0 4 = nN (kap (kd p)) := (Fr_i F1 (by rfl)).trans lx2
        have m11 : m1.1 21 0 11 = nN p := (Fr_i G1 (by rfl)).trans lm.1
        have m67 := (E1.2.2.2.2.2.1 p ok).1
        rw [q_Reader_takeAndWait_eq, x4, Option.bind_assoc]
        simp (disch := omega) only [L_0, L_1, L_2, L_3, L_4, L_5, L_6, L_7, L_8, L_9, L_10, L_11, L_12, L_13, L_14, L_15, L_16, L_17, L_18, L_19, L_20, L_21, L_22, L_23, L_24, L_25, L_26, L_27, L_28, L_29, L_30, L_31, L_32, L_33, L_34, L_35, L_40, L_41, L_42, L_43, L_44, L_45, L_47, L_48, L_50, L_53, L_57, L_59, L_60, L_61, L_63, L_64, L_97, L_100, L_101, L_102, L_103, L_122, L_130, L_216, L_255, L_364, L_400, L_402, L_420, L_728, L_768, L_999, L_1000, L_1093, L_1872, L_2000, L_9999, L_12345, L_252645135, L_858993459, L_1103515245, L_1431655765, Lm_1, Lm_2, Lm_8, N_zero, N_cast, N_add, N_mul, N_sub, N_addM, N_lt_tp, N_lt_fp, N_le_tp, N_le_fp, N_eq_tp, N_eq_fp, MN_ltp, MN_lep, NM_ltp, NM_lep, NM_eqp, MN_eqp, MM_lt_tp, MM_lt_fp, MM_le_tp, MM_le_fp, MM_eq_tp, MM_eq_fp, N_cl, N_in_t, N_in_f, M_in, N_div, N_rem, N_nb0, N_nb1, cond_true, cond_false, Bool.not_true, Bool.not_false, Bool.and_true, Bool.true_and, Bool.and_false, Bool.false_and, decide_true, decide_false, Option.bind_some, Option.bind_none, m11, m67, W1.2.1, iu_nt (show 21 ≠ 92 by decide)]
        generalize em2 : wb_iu (wb_iu m1 92 0 ws'.length (nN (kd p))) 21 0 43 (nN (ws'.length + 1)) = m2'
        have G2 : Fr [92, 1043] m1 m2' := by rw [← em2]; exact Fr_trans (Fr_iu rfl) (Fr_iu rfl)
        refine Both_bind (ls_go (En_f (FX_refl q x1) (FM_fr G2 rfl) E1) (Live_fr (Fr_refl [] x1) G2 rfl rfl H1) k0 k3) ?_
        rintro x3 m3 ⟨F3, G3, h⟩
        have x5 : x3.1 16 0 5 = nN ws'.length := (Fr_i F3 (by rfl)).trans W1.1
        simp (disch := omega) only [L_0, L_1, L_2, L_3, L_4, L_5, L_6, L_7, L_8, L_9, L_10, L_11, L_12, L_13, L_14, L_15, L_16, L_17, L_18, L_19, L_20, L_21, L_22, L_23, L_24, L_25, L_26, L_27, L_28, L_29, L_30, L_31, L_32, L_33, L_34, L_35, L_40, L_41, L_42, L_43, L_44, L_45, L_47, L_48, L_50, L_53, L_57, L_59, L_60, L_61, L_63, L_64, L_97, L_100, L_101, L_102, L_103, L_122, L_130, L_216, L_255, L_364, L_400, L_402, L_420, L_728, L_768, L_999, L_1000, L_1093, L_1872, L_2000, L_9999, L_12345, L_252645135, L_858993459, L_1103515245, L_1431655765, Lm_1, Lm_2, Lm_8, N_zero, N_cast, N_add, N_mul, N_sub, N_addM, N_lt_tp, N_lt_fp, N_le_tp, N_le_fp, N_eq_tp, N_eq_fp, MN_ltp, MN_lep, NM_ltp, NM_lep, NM_eqp, MN_eqp, MM_lt_tp, MM_lt_fp, MM_le_tp, MM_le_fp, MM_eq_tp, MM_eq_fp, N_cl, N_in_t, N_in_f, M_in, N_div, N_rem, N_nb0, N_nb1, cond_true, cond_false, Bool.not_true, Bool.not_false, Bool.and_true, Bool.true_and, Bool.and_false, Bool.false_and, decide_true, decide_false, Option.bind_some, Option.bind_none, x5, iu_nt (show 16 ≠ 53 by decide)]
        have W3 := Wt_push (k := kd p) (Wt_fr F3 (Fr_refl [] m1) rfl rfl W1) wk (fun _ => t1)
        rw [em2] at W3
        generalize ex4 : wb_iu (wb_iu x3 53 0 ws'.length (nN (kap (kd p)))) 16 0 5 (nN (ws'.length + 1)) = x4' at *
        have F4 : Fr [53, 4005] x3 x4' := by rw [← ex4]; exact Fr_trans (Fr_iu rfl) (Fr_iu rfl)
        have W4 : Wt (kd p :: ws') x4' m3 := Wt_fr (Fr_refl [] x4') G3 rfl rfl W3
        have cs1 : CS q s x m x4' m3 := ⟨Fr_trans (Fr_mono F1 rfl) (Fr_trans (Fr_mono F3 rfl) (Fr_mono F4 rfl)), FX_trans X1 (FX_trans (FX_fr F3 rfl) (FX_fr F4 rfl)), Fr_trans (Fr_mono G1 rfl) (Fr_trans (Fr_mono G2 rfl) (Fr_mono G3 rfl)), FM_trans M1 (FM_trans (FM_fr G2 rfl) (FM_fr G3 rfl))⟩
        have FF : Fr [53, 4003, 4004, 4005, 4008, 4009] x1 x4' := Fr_trans (Fr_mono F3 rfl) (Fr_mono F4 rfl)
        have GG : Fr [92, 1011, 1013, 1014, 1043] m1 m3 := Fr_trans (Fr_mono G2 rfl) (Fr_mono G3 rfl)
        have nk6 : kd p ≠ 6 := by omega
        have bw : binW (kd p :: ws') = binW ws' + 1 := by show binW ws' + (if kd p = 6 then 0 else 1) = _; rw [if_neg nk6]
        have ow : opnW (kd p :: ws') = o := by show opnW ws' + (if kd p = 6 then 1 else 0) = _; rw [if_neg nk6, op1, o2, Nat.add_zero]
        rw [q_M_expression_L12_eq]
        rcases h with h | h
        · have H4 := Live_fr F4 (Fr_refl [] m3) rfl rfl h
          have m13 : m3.1 21 0 13 = nN 0 := by
            obtain ⟨y, hy, o, w5, y2, lx, lm⟩ := H4
            exact lm.2.1
          simp (disch := omega) only [L_0, L_1, L_2, L_3, L_4, L_5, L_6, L_7, L_8, L_9, L_10, L_11, L_12, L_13, L_14, L_15, L_16, L_17, L_18, L_19, L_20, L_21, L_22, L_23, L_24, L_25, L_26, L_27, L_28, L_29, L_30, L_31, L_32, L_33, L_34, L_35, L_40, L_41, L_42, L_43, L_44, L_45, L_47, L_48, L_50, L_53, L_57, L_59, L_60, L_61, L_63, L_64, L_97, L_100, L_101, L_102, L_103, L_122, L_130, L_216, L_255, L_364, L_400, L_402, L_420, L_728, L_768, L_999, L_1000, L_1093, L_1872, L_2000, L_9999, L_12345, L_252645135, L_858993459, L_1103515245, L_1431655765, Lm_1, Lm_2, Lm_8, N_zero, N_cast, N_add, N_mul, N_sub, N_addM, N_lt_tp, N_lt_fp, N_le_tp, N_le_fp, N_eq_tp, N_eq_fp, MN_ltp, MN_lep, NM_ltp, NM_lep, NM_eqp, MN_eqp, MM_lt_tp, MM_lt_fp, MM_le_tp, MM_le_fp, MM_eq_tp, MM_eq_fp, N_cl, N_in_t, N_in_f, M_in, N_div, N_rem, N_nb0, N_nb1, cond_true, cond_false, Bool.not_true, Bool.not_false, Bool.and_true, Bool.true_and, Bool.and_false, Bool.false_and, decide_true, decide_false, Option.bind_some, Option.bind_none, m13]
          have I2 : EI q s kd pl vl z0 y0 w (p + 1) cs' (kd p :: ws') o x4' m3 := ⟨En_f cs1.2.1 cs1.2.2.2 E, H4, Cd_fr FF GG rfl rfl C1, W4, (Fr_i GG (by rfl)).trans ((Fr_i G1 (by rfl)).trans o1), ow, o3, by rw [bw]; omega, l2, by rw [bw]; omega, PLn_fr cs1.1 rfl P⟩
          refine Both_w ((ih (p + 1) cs' (kd p :: ws') o (i + 1) x4' m3 (by omega) (by omega) I2).1 (by rw [bw, d1])) ?_
          intro x6 m6 h6
          exact Fin_trans (by omega) cs1 (Kp_trans K1 (Kp_fr FF rfl)) (Km_trans J1 (Km_fr GG rfl)) h6
        · obtain ⟨f, e, he, D1, D2⟩ := Dead_fr F4 (Fr_refl [] m3) rfl rfl h
          have d0 := D2.1
          have d5 := D2.2.1
          have d13 := D2.2.2.1
          simp (disch := omega) only [L_0, L_1, L_2, L_3, L_4, L_5, L_6, L_7, L_8, L_9, L_10, L_11, L_12, L_13, L_14, L_15, L_16, L_17, L_18, L_19, L_20, L_21, L_22, L_23, L_24, L_25, L_26, L_27, L_28, L_29, L_30, L_31, L_32, L_33, L_34, L_35, L_40, L_41, L_42, L_43, L_44, L_45, L_47, L_48, L_50, L_53, L_57, L_59, L_60, L_61, L_63, L_64, L_97, L_100, L_101, L_102, L_103, L_122, L_130, L_216, L_255, L_364, L_400, L_402, L_420, L_728, L_768, L_999, L_1000, L_1093, L_1872, L_2000, L_9999, L_12345, L_252645135, L_858993459, L_1103515245, L_1431655765, Lm_1, Lm_2, Lm_8, N_zero, N_cast, N_add, N_mul, N_sub, N_addM, N_lt_tp, N_lt_fp, N_le_tp, N_le_fp, N_eq_tp, N_eq_fp, MN_ltp, MN_lep, NM_ltp, NM_lep, NM_eqp, MN_eqp, MM_lt_tp, MM_lt_fp, MM_le_tp, MM_le_fp, MM_eq_tp, MM_eq_fp, N_cl, N_in_t, N_in_f, M_in, N_div, N_rem, N_nb0, N_nb1, cond_true, cond_false, Bool.not_true, Bool.not_false, Bool.and_true, Bool.true_and, Bool.and_false, Bool.false_and, decide_true, decide_false, Option.bind_some, Option.bind_none, d13]
          have dz1 : Dz q x1 := ⟨_, by omega, C1.1⟩
          refine Both_of (xd_end (q := q) (w0 := ws'.length + 1) D1 E.2.1 ((Fr_m cs1.1 (by rfl)).trans m2) (Dz_fr FF rfl dz1) (PLn_fr cs1.1 rfl P) W4.1 (by omega) _ _ _ _) (⟨_, rfl, rfl⟩ : Ok (some m3) (fun b => b = m3)) ?_
          rintro x5 m5 ⟨F5, X5, D5, Z5⟩ rfl
          exact Fin_dead (CS_trans cs1 (CS_x F5 X5)) ⟨f, e, he, D5, D2⟩ Z5
      · have b0 : bnk (kd p) = 0 := by
          unfold bnk
          rw [if_neg (by omega), if_neg (by omega)]
        by_cases zo : o = 0
        · subst zo
          rw [M_last E.1 ms ok lm z o1 (by decide) (Or.inr rfl), if_pos rfl]
          simp (disch := omega) only [L_0, L_1, L_2, L_3, L_4, L_5, L_6, L_7, L_8, L_9, L_10, L_11, L_12, L_13, L_14, L_15, L_16, L_17, L_18, L_19, L_20, L_21, L_22, L_23, L_24, L_25, L_26, L_27, L_28, L_29, L_30, L_31, L_32, L_33, L_34, L_35, L_40, L_41, L_42, L_43, L_44, L_45, L_47, L_48, L_50, L_53, L_57, L_59, L_60, L_61, L_63, L_64, L_97, L_100, L_101, L_102, L_103, L_122, L_130, L_216, L_255, L_364, L_400, L_402, L_420, L_728, L_768, L_999, L_1000, L_1093, L_1872, L_2000, L_9999, L_12345, L_252645135, L_858993459, L_1103515245, L_1431655765, Lm_1, Lm_2, Lm_8, N_zero, N_cast, N_add, N_mul, N_sub, N_addM, N_lt_tp, N_lt_fp, N_le_tp, N_le_fp, N_eq_tp, N_eq_fp, MN_ltp, MN_lep, NM_ltp, NM_lep, NM_eqp, MN_eqp, MM_lt_tp, MM_lt_fp, MM_le_tp, MM_le_fp, MM_eq_tp, MM_eq_fp, N_cl, N_in_t, N_in_f, M_in, N_div, N_rem, N_nb0, N_nb1, cond_true, cond_false, Bool.not_true, Bool.not_false, Bool.and_true, Bool.true_and, Bool.and_false, Bool.false_and, decide_true, decide_false, Option.bind_some, Option.bind_none, lx2, lx3, X_bnd x (E.1.1 p), b0]
          exact ls_end I hd (by omega) _
        · by_cases z7 : kd p = 7
          · have k41 : nN 41 = nN (kap (kd p)) := by rw [z7]; rfl
            have k0 : kd p ≠ 0 := by omega
            have k3 : kd p ≠ 3 := by omega
            rw [q_M_expression_L96_eq]
            simp (disch := omega) only [L_0, L_1, L_2, L_3, L_4, L_5, L_6, L_7, L_8, L_9, L_10, L_11, L_12, L_13, L_14, L_15, L_16, L_17, L_18, L_19, L_20, L_21, L_22, L_23, L_24, L_25, L_26, L_27, L_28, L_29, L_30, L_31, L_32, L_33, L_34, L_35, L_40, L_41, L_42, L_43, L_44, L_45, L_47, L_48, L_50, L_53, L_57, L_59, L_60, L_61, L_63, L_64, L_97, L_100, L_101, L_102, L_103, L_122, L_130, L_216, L_255, L_364, L_400, L_402, L_420, L_728, L_768, L_999, L_1000, L_1093, L_1872, L_2000, L_9999, L_12345, L_252645135, L_858993459, L_1103515245, L_1431655765, Lm_1, Lm_2, Lm_8, N_zero, N_cast, N_add, N_mul, N_sub, N_addM, N_lt_tp, N_lt_fp, N_le_tp, N_le_fp, N_eq_tp, N_eq_fp, MN_ltp, MN_lep, NM_ltp, NM_lep, NM_eqp, MN_eqp, MM_lt_tp, MM_lt_fp, MM_le_tp, MM_le_fp, MM_eq_tp, MM_eq_fp, N_cl, N_in_t, N_in_f, M_in, N_div, N_rem, N_nb0, N_nb1, cond_true, cond_false, Bool.not_true, Bool.not_false, Bool.and_true, Bool.true_and, Bool.and_false, Bool.false_and, decide_true, decide_false, Option.bind_some, Option.bind_none, lx2, lx3, X_bnd x (E.1.1 p), b0, M_is E.1 ms ok lm (show 7 ≤ 100 by decide), if_pos z7, o1]
            rw [k41]
            refine Both_x (X_go E.2.2.2.1 ok lx k0 k3) ?_
            rintro x1 ⟨F1, hx⟩
            rw [X_emitW_L0, M_comes_L0]
            have W1 := Wt_fr F1 (Fr_refl [] m) rfl rfl W
            refine Both_bind (ls_pop (b := 1) (Or.inl rfl) E.2.1 E.2.2.1 ws cs x1 m ((Fr_m F1 (by rfl)).trans m2) (Cd_fr F1 (Fr_refl [] m) rfl rfl C) W1 hd (by omega) l2 (by omega) (by omega)) ?_
            rintro x2 m1 ⟨F2, X2, G1, M1, K1, J1, cs', ws', C2, W2, d2, n2, op2, t2⟩
            obtain ⟨r, er⟩ := shp_open W2.2.2.2.2 t2 (by omega)
            subst er
            have x5 : x2.1 16 0 5 = nN (r.length + 1) := W2.1
            have m5 : m1.1 21 0 43 = nN (r.length + 1) := W2.2.1
            have m12 : m1.1 21 0 12 = nN o := (Fr_i G1 (by rfl)).trans o1
            have br : binW (6 :: r) = binW r := rfl
            have opr : opnW (6 :: r) = opnW r + 1 := rfl
            have lr := len_W r
            have sr := shp_bin W2.2.2.2.2.2.2
            have tr := tbW_le r
            rw [br] at d2 n2
            rw [opr] at op2
            simp (disch := omega) only [L_0, L_1, L_2, L_3, L_4, L_5, L_6, L_7, L_8, L_9, L_10, L_11, L_12, L_13, L_14, L_15, L_16, L_17, L_18, L_19, L_20, L_21, L_22, L_23, L_24, L_25, L_26, L_27, L_28, L_29, L_30, L_31, L_32, L_33, L_34, L_35, L_40, L_41, L_42, L_43, L_44, L_45, L_47, L_48, L_50, L_53, L_57, L_59, L_60, L_61, L_63, L_64, L_97, L_100, L_101, L_102, L_103, L_122, L_130, L_216, L_255, L_364, L_400, L_402, L_420, L_728, L_768, L_999, L_1000, L_1093, L_1872, L_2000, L_9999, L_12345, L_252645135, L_858993459, L_1103515245, L_1431655765, Lm_1, Lm_2, Lm_8, N_zero, N_cast, N_add, N_mul, N_sub, N_addM, N_lt_tp, N_lt_fp, N_le_tp, N_le_fp, N_eq_tp, N_eq_fp, MN_ltp, MN_lep, NM_ltp, NM_lep, NM_eqp, MN_eqp, MM_lt_tp, MM_lt_fp, MM_le_tp, MM_le_fp, MM_eq_tp, MM_eq_fp, N_cl, N_in_t, N_in_f, M_in, N_div, N_rem, N_nb0, N_nb1, x5, m5, iu_ne (show 12 ≠ 43 by decide), m12, Nat.add_sub_cancel]
            have W3 : Wt r (wb_iu x2 16 0 5 (nN r.length)) (wb_iu (wb_iu m1 21 0 43 (nN r.length)) 21 0 12 (nN (o - 1))) := ⟨iu_at, by rw [iu_ne (by decide), iu_at], WsX_keep (fun j _ => iu_nt (by decide)) W2.2.2.1.2, WsM_keep (fun j _ => by rw [iu_nt (by decide), iu_nt (by decide)]) W2.2.2.2.1.2, W2.2.2.2.2.2.2⟩
            have e12 : (wb_iu (wb_iu m1 21 0 43 (nN r.length)) 21 0 12 (nN (o - 1))).1 21 0 12 = nN (o - 1) := iu_at
            have F3 : Fr [4005] x2 (wb_iu x2 16 0 5 (nN r.length)) := Fr_iu rfl
            have G2 : Fr [1012, 1043] m1 (wb_iu (wb_iu m1 21 0 43 (nN r.length)) 21 0 12 (nN (o - 1))) := Fr_trans (Fr_iu rfl) (Fr_iu rfl)
            generalize wb_iu x2 16 0 5 (nN r.length) = x3 at *
            generalize wb_iu (wb_iu m1 21 0 43 (nN r.length)) 21 0 12 (nN (o - 1)) = m2' at *
            have lm' : LvM p w y m2' := LvM_fr G2 rfl (LvM_fr G1 rfl lm)
            have XX : FX q x x3 := FX_trans (FX_fr F1 rfl) (FX_trans X2 (FX_fr F3 rfl))
            have E2 : En q s kd pl vl x3 m2' := En_f XX (FM_trans M1 (FM_fr G2 rfl)) E
            refine Both_m (M_go E2.2.2.2.2.2.1 ok lm') ?_
            rintro m3 ⟨G3, hm⟩
            have C3 : Cd q z0 y0 cs' x3 m3 := Cd_fr F3 (Fr_trans (Fr_mono G2 rfl) (Fr_mono G3 rfl) : Fr [1011, 1012, 1013, 1014, 1043] m1 m3) rfl rfl C2
            have W4 : Wt r x3 m3 := Wt_fr (Fr_refl [] x3) G3 rfl rfl W3
            have cs1 : CS q s x m x3 m3 := ⟨Fr_trans (Fr_mono F1 rfl) (Fr_trans (Fr_mono F2 rfl) (Fr_mono F3 rfl)), XX, Fr_trans (Fr_mono G1 rfl) (Fr_trans (Fr_mono G2 rfl) (Fr_mono G3 rfl)), FM_trans M1 (FM_trans (FM_fr G2 rfl) (FM_fr G3 rfl))⟩
            have KK : Kp q z0 x x3 := Kp_trans (Kp_fr F1 rfl) (Kp_trans K1 (Kp_fr F3 rfl))
            have JJ : Km y0 m m3 := Km_trans J1 (Km_trans (Km_fr G2 rfl) (Km_fr G3 rfl))
            by_cases zp : p < 400
            · rcases hx with ⟨-, hx⟩ | ⟨e, -⟩
              · rcases hm with ⟨-, hm⟩ | ⟨e, -⟩
                · have ok2 := okT_succ ok zp k0 k3
                  have H3 : Live kd pl (p + 1) w x3 m3 := ⟨y, fun e => Nat.lt_trans (hy e) (pl_succ E.1 ok2), ok2, w5, y2, LvX_fr F3 rfl (LvX_fr F2 rfl hx), hm⟩
                  have I2 : EI q s kd pl vl z0 y0 w (p + 1) cs' r (o - 1) x3 m3 := ⟨En_f cs1.2.1 cs1.2.2.2 E, H3, C3, W4, (Fr_i G3 (by rfl)).trans e12, by omega, by omega, by omega, l2, by omega, PLn_fr cs1.1 rfl P⟩
                  refine Both_w ((ih (p + 1) cs' r (o - 1) (i + 1) x3 m3 (by omega) (by omega) I2).2 d2) ?_
                  intro x6 m6 h6
                  exact Fin_trans (by omega) cs1 KK JJ h6
                · omega
              · omega
            · rcases hx with ⟨e, -⟩ | ⟨-, hx⟩
              · omega
              · rcases hm with ⟨e, -⟩ | ⟨-, hm⟩
                · omega
                · have D1 : DdX 2 (pl p) x3 := DdX_fr F3 rfl rfl rfl (DdX_fr F2 rfl rfl rfl hx)
                  rw [xd_L14 D1, mD_L96 hm]
                  refine Both_w (ls_pop (b := 1) (Or.inl rfl) E.2.1 E.2.2.1 r cs' x3 m3 ((Fr_m cs1.1 (by rfl)).trans m2) C3 W4 d2 (by omega) l2 (by omega) (by omega)) ?_
                  rintro x6 m6 ⟨F6, X6, G6, M6, -, -, cs6, ws6, C6, W6, d6, n6, -⟩
                  exact Fin_dead (CS_trans cs1 ⟨Fr_mono F6 rfl, X6, Fr_mono G6 rfl, M6⟩) ⟨2, pl p, E.1.2.1 p, DdX_fr F6 rfl rfl rfl D1, DdM_fr G6 rfl rfl hm⟩ ⟨_, by omega, C6.1⟩
          · rw [M_last E.1 ms ok lm z o1 o3 (Or.inl z7), if_neg zo]
            simp (disch := omega) only [L_0, L_1, L_2, L_3, L_4, L_5, L_6, L_7, L_8, L_9, L_10, L_11, L_12, L_13, L_14, L_15, L_16, L_17, L_18, L_19, L_20, L_21, L_22, L_23, L_24, L_25, L_26, L_27, L_28, L_29, L_30, L_31, L_32, L_33, L_34, L_35, L_40, L_41, L_42, L_43, L_44, L_45, L_47, L_48, L_50, L_53, L_57, L_59, L_60, L_61, L_63, L_64, L_97, L_100, L_101, L_102, L_103, L_122, L_130, L_216, L_255, L_364, L_400, L_402, L_420, L_728, L_768, L_999, L_1000, L_1093, L_1872, L_2000, L_9999, L_12345, L_252645135, L_858993459, L_1103515245, L_1431655765, Lm_1, Lm_2, Lm_8, N_zero, N_cast, N_add, N_mul, N_sub, N_addM, N_lt_tp, N_lt_fp, N_le_tp, N_le_fp, N_eq_tp, N_eq_fp, MN_ltp, MN_lep, NM_ltp, NM_lep, NM_eqp, MN_eqp, MM_lt_tp, MM_lt_fp, MM_le_tp, MM_le_fp, MM_eq_tp, MM_eq_fp, N_cl, N_in_t, N_in_f, M_in, N_div, N_rem, N_nb0, N_nb1, cond_true, cond_false, Bool.not_true, Bool.not_false, Bool.and_true, Bool.true_and, Bool.and_false, Bool.false_and, decide_true, decide_false, Option.bind_some, Option.bind_none, lx2, lx3, X_bnd x (E.1.1 p), b0]
            have k41 : nN 41 = nN (kap 7) := rfl
            rw [k41]
            refine Both_bind (Both_of (X_ne E.1 E.2.2.2.1 ok lx (show kOk 7 from Or.inl (by decide)) z7) (M_fail ms ok lm (n := 1) (by decide) (by decide)) (fun a b ha hb => (⟨ha, hb⟩ : _ ∧ _))) ?_
            rintro x1 m1 ⟨⟨F1, D1⟩, G1, D2⟩
            rw [X_emitW_L0, M_comes_L0]
            have W1 := Wt_fr F1 G1 rfl rfl W
            rw [← bnd_some (q_M_comesOut_L0 sc m1 (nN 0))]
            refine Both_bind (ls_pop (b := 1) (Or.inl rfl) E.2.1 E.2.2.1 ws cs x1 m1 ((Fr_m F1 (by rfl)).trans m2) (Cd_fr F1 G1 rfl rfl C) W1 hd (by omega) l2 (by omega) (by omega)) ?_
            rintro x3 m3 ⟨F3, X3, G3, M3, K3, J3, cs', ws', C3, W3, d3, n3, op3, t3⟩
            have lw3 := len_W ws'
            have sb3 := shp_bin W3.2.2.2.2
            have tl3 := tbW_le ws'
            have x5 := W3.1
            simp (disch := omega) only [x5, N_sub]
            have F4 : Fr [4005] x3 (wb_iu x3 16 0 5 (nN (ws'.length - 1))) := Fr_iu rfl
            have dz3 : Dz q x3 := ⟨_, by omega, C3.1⟩
            refine Both_of (xd_end (q := q) (w0 := ws'.length - 1) (DdX_fr F4 rfl rfl rfl (DdX_fr F3 rfl rfl rfl D1)) E.2.1 ((Fr_m F4 (by rfl)).trans ((Fr_m F3 (by rfl)).trans ((Fr_m F1 (by rfl)).trans m2))) (Dz_fr F4 rfl dz3) (PLn_fr F4 rfl (PLn_fr F3 rfl (PLn_fr F1 rfl P))) iu_at (by omega) _ _ _ _) (⟨_, rfl, rfl⟩ : Ok (some m3) (fun b => b = m3)) ?_
            rintro x5 m5 ⟨F5, X5, D5, Z5⟩ rfl
            exact Fin_dead (CS_trans ⟨Fr_trans (Fr_mono F1 rfl) (Fr_trans (Fr_mono F3 rfl) (Fr_mono F4 rfl)), FX_trans (FX_fr F1 rfl) (FX_trans X3 (FX_fr F4 rfl)), Fr_trans (Fr_mono G1 rfl) (Fr_mono G3 rfl), FM_trans (FM_fr G1 rfl) M3⟩ (CS_x F5 X5)) ⟨1, pl p, E.1.2.1 p, D5, DdM_fr G3 rfl rfl D2⟩ Z5
/-- an expression as a whole -/
theorem ls_sum {p : Nat} {x m : wb_H} (E : En q s kd pl vl x m) (H : Live kd pl p w x m) (h1 : x.1 13 q 6 = nN z0) (h2 : m.1 21 0 39 = nN y0) (h3 : m.1 21 0 12 = nN 0) (l1 : z0 ≤ p) (l2 : 420 * s ≤ y0) (l3 : y0 ≤ 420 * s + p) (P : PLn q x) : Both (q_Reader_parseSum sc x) (q_M_expression sc m) (Fin p q s kd pl z0 y0 w x m) := by
  have F : Fr [4005] x (wb_iu x 16 0 5 (nN 0)) := Fr_iu rfl
  have G : Fr [1043] m (wb_iu m 21 0 43 (nN 0)) := Fr_iu rfl
  have p4 : p ≤ 400 := by
    obtain ⟨y, hy, o, -⟩ := H
    exact o.1
  have H1 := Live_fr F G rfl rfl H
  have lm2 : m.1 21 0 13 = nN 0 := by
    obtain ⟨y, hy, o, w5, y2, lx, lm⟩ := H
    exact lm.2.1
  rw [q_Reader_parseSum_eq, q_M_expression_eq, q_M_expression_L12_eq]
  simp (disch := omega) only [L_0, L_1, L_2, L_3, L_4, L_5, L_6, L_7, L_8, L_9, L_10, L_11, L_12, L_13, L_14, L_15, L_16, L_17, L_18, L_19, L_20, L_21, L_22, L_23, L_24, L_25, L_26, L_27, L_28, L_29, L_30, L_31, L_32, L_33, L_34, L_35, L_40, L_41, L_42, L_43, L_44, L_45, L_47, L_48, L_50, L_53, L_57, L_59, L_60, L_61, L_63, L_64, L_97, L_100, L_101, L_102, L_103, L_122, L_130, L_216, L_255, L_364, L_400, L_402, L_420, L_728, L_768, L_999, L_1000, L_1093, L_1872, L_2000, L_9999, L_12345, L_252645135, L_858993459, L_1103515245, L_1431655765, Lm_1, Lm_2, Lm_8, N_zero, N_cast, N_add, N_mul, N_sub, N_addM, N_lt_tp, N_lt_fp, N_le_tp, N_le_fp, N_eq_tp, N_eq_fp, MN_ltp, MN_lep, NM_ltp, NM_lep, NM_eqp, MN_eqp, MM_lt_tp, MM_lt_fp, MM_le_tp, MM_le_fp, MM_eq_tp, MM_eq_fp, N_cl, N_in_t, N_in_f, M_in, N_div, N_rem, N_nb0, N_nb1, cond_true, cond_false, Bool.not_true, Bool.not_false, Bool.and_true, Bool.true_and, Bool.and_false, Bool.false_and, decide_true, decide_false, Option.bind_some, Option.bind_none, iu_ne (show 12 ≠ 43 by decide), iu_ne (show 13 ≠ 43 by decide), lm2, h3]
  have I : EI q s kd pl vl z0 y0 w p [] [] 0 (wb_iu x 16 0 5 (nN 0)) (wb_iu m 21 0 43 (nN 0)) := ⟨En_f (FX_fr F rfl) (FM_fr G rfl) E, H1, ⟨(Fr_i F (by rfl)).trans h1, (Fr_i G (by rfl)).trans h2, trivial, trivial, by show 0 ≤ 20; decide⟩, ⟨iu_at, iu_at, trivial, trivial, trivial⟩, (Fr_i G (by rfl)).trans h3, rfl, by decide, l1, l2, l3, PLn_fr F rfl P⟩
  refine Both_w ((ls_expr (sc := sc) 401 p [] [] 0 0 _ _ (by omega) (Nat.zero_le _) I).1 rfl) ?_
  intro x1 m1 h
  exact Fin_trans (Nat.le_refl _) ⟨Fr_mono F rfl, FX_fr F rfl, Fr_mono G rfl, FM_fr G rfl⟩ (Kp_fr F rfl) (Km_fr G rfl) h
end
