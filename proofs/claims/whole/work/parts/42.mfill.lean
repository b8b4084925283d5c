/-! The reference's evening: all worlds. -/
theorem iu_at {h : wb_H} {t o k : Nat} {v : Int32} : (wb_iu h t o k v).1 t o k = v := by rw [wb_iu_1, if_pos ⟨rfl, rfl, rfl⟩]
theorem iu_ne {h : wb_H} {t o k k' : Nat} {v : Int32} (hk : k' ≠ k) : (wb_iu h t o k v).1 t o k' = h.1 t o k' := by rw [wb_iu_1, if_neg (fun q => hk q.2.2)]
theorem iu_nt {h : wb_H} {t o k t' o' k' : Nat} {v : Int32} (ht : t' ≠ t) : (wb_iu h t o k v).1 t' o' k' = h.1 t' o' k' := by rw [wb_iu_1, if_neg (fun q => ht q.1)]
theorem dg_hi {x p q : Nat} (hx : x < 3 ^ p) (hq : p ≤ q) : dg x q = 0 := by
  unfold dg
  rw [Nat.div_eq_of_lt (Nat.lt_of_lt_of_le hx (Nat.pow_le_pow_right (by decide) hq))]
theorem rgt_dgs {R p w q : Nat} (hR : R ≤ 6) : dg (rgt R w) q = if q < R then tb w 0 else 0 := by
  by_cases h : q < R
  · rw [if_pos h, rgt_dg hR h]
  · rw [if_neg h, dg_hi (rgt_lt R w) (by omega)]
theorem an_le {A : wa} (hA : wa_ok A) : an A ≤ 6 := hA.1
section
variable {sc : wb_X} {s l : Nat} {A : wa}
theorem M_aheadIn_L {h0 : wb_H} {w : Nat} (hw : w < 128) : ∀ k j, j + k = 6 → ∀ h : wb_H, Fr [99] h0 h → (∀ p, p < j → h.1 99 0 p = h0.1 97 0 (6 * w + p)) → Ok (q_M_aheadIn_L2 sc h (nN w) (nN j)) (fun h' => Fr [99] h0 h' ∧ ∀ p, p < 6 → h'.1 99 0 p = h0.1 97 0 (6 * w + p)) := by
  intro k
  induction k with
  | zero =>
    intro j hj h F g
    rw [q_M_aheadIn_L2_eq]
    simp (disch := omega) only [L_0, L_1, L_2, L_3, L_4, L_5, L_6, L_7, L_8, L_9, L_10, L_11, L_12, L_13, L_14, L_15, L_16, L_17, L_18, L_19, L_20, L_21, L_22, L_23, L_24, L_25, L_26, L_27, L_28, L_29, L_30, L_31, L_32, L_33, L_34, L_35, L_40, L_41, L_42, L_43, L_44, L_45, L_47, L_48, L_50, L_53, L_57, L_59, L_60, L_61, L_63, L_64, L_97, L_100, L_101, L_102, L_103, L_122, L_130, L_216, L_255, L_364, L_400, L_402, L_420, L_728, L_768, L_999, L_1000, L_1093, L_1872, L_2000, L_9999, L_12345, L_252645135, L_858993459, L_1103515245, L_1431655765, Lm_1, Lm_2, Lm_8, N_zero, N_cast, N_add, N_mul, N_sub, N_addM, N_lt_tp, N_lt_fp, N_le_tp, N_le_fp, N_eq_tp, N_eq_fp, MN_ltp, MN_lep, NM_ltp, NM_lep, NM_eqp, MN_eqp, MM_lt_tp, MM_lt_fp, MM_le_tp, MM_le_fp, MM_eq_tp, MM_eq_fp, N_cl, N_in_t, N_in_f, M_in, N_div, N_rem, N_nb0, N_nb1, cond_true, cond_false, Bool.not_true, Bool.not_false, Bool.and_true, Bool.true_and, Bool.and_false, Bool.false_and, decide_true, decide_false, Option.bind_some, Option.bind_none]
    exact Ok_some ⟨F, fun p hp => g p (by omega)⟩
  | succ k ih =>
    intro j hj h F g
    rw [q_M_aheadIn_L2_eq]
    simp (disch := omega) only [L_0, L_1, L_2, L_3, L_4, L_5, L_6, L_7, L_8, L_9, L_10, L_11, L_12, L_13, L_14, L_15, L_16, L_17, L_18, L_19, L_20, L_21, L_22, L_23, L_24, L_25, L_26, L_27, L_28, L_29, L_30, L_31, L_32, L_33, L_34, L_35, L_40, L_41, L_42, L_43, L_44, L_45, L_47, L_48, L_50, L_53, L_57, L_59, L_60, L_61, L_63, L_64, L_97, L_100, L_101, L_102, L_103, L_122, L_130, L_216, L_255, L_364, L_400, L_402, L_420, L_728, L_768, L_999, L_1000, L_1093, L_1872, L_2000, L_9999, L_12345, L_252645135, L_858993459, L_1103515245, L_1431655765, Lm_1, Lm_2, Lm_8, N_zero, N_cast, N_add, N_mul, N_sub, N_addM, N_lt_tp, N_lt_fp, N_le_tp, N_le_fp, N_eq_tp, N_eq_fp, MN_ltp, MN_lep, NM_ltp, NM_lep, NM_eqp, MN_eqp, MM_lt_tp, MM_lt_fp, MM_le_tp, MM_le_fp, MM_eq_tp, MM_eq_fp, N_cl, N_in_t, N_in_f, M_in, N_div, N_rem, N_nb0, N_nb1, cond_true, cond_false, Bool.not_true, Bool.not_false, Bool.and_true, Bool.true_and, Bool.and_false, Bool.false_and, decide_true, decide_false, Option.bind_some, Option.bind_none]
    refine ih (j + 1) (by omega) _ (Fr_trans F (Fr_iu rfl)) fun p hp => ?_
    by_cases e : p = j
    · rw [e, iu_at]
      exact Fr_i F (by rfl)
    · rw [iu_ne e]
      exact g p (by omega)
theorem M_aheadIn {h : wb_H} {w : Nat} (hw : w < 128) : Ok (q_M_aheadIn sc h (nN w)) (fun h' => Fr [99] h h' ∧ ∀ p, p < 6 → h'.1 99 0 p = h.1 97 0 (6 * w + p)) := by
  rw [q_M_aheadIn_eq]
  exact M_aheadIn_L hw 6 0 rfl h (Fr_refl _ _) (fun p hp => by omega)
def inR (h0 h : wb_H) (A : wa) (p w k : Nat) : Prop := Fr [97] h0 h ∧ ∀ w' q, w' < nw A → q < 6 → h.1 97 0 (6 * w' + q) = if (w' < w ∧ q < p) ∨ (w' = w ∧ q < k) then nN (tb w' 0) else h0.1 97 0 (6 * w' + q)
theorem M_rights_L12 (hA : wa_ok A) {h0 : wb_H} {P : wb_H → Prop} {p w : Nat} (hp : p ≤ 6) (hw : w < nw A) (hk : ∀ h, inR h0 h A p (w + 1) 0 → Ok (q_M_rights_L2 sc h (nN p) (nN (w + 1))) P) : ∀ m k, k + m = p → ∀ h, inR h0 h A p w k → Ok (q_M_rights_L12 sc h (nN p) (nN w) (nN k)) P := by
  have h128 := nw_le hA
  intro m
  induction m with
  | zero =>
    intro k hkm h I
    rw [q_M_rights_L12_eq]
    simp (disch := omega) only [L_0, L_1, L_2, L_3, L_4, L_5, L_6, L_7, L_8, L_9, L_10, L_11, L_12, L_13, L_14, L_15, L_16, L_17, L_18, L_19, L_20, L_21, L_22, L_23, L_24, L_25, L_26, L_27, L_28, L_29, L_30, L_31, L_32, L_33, L_34, L_35, L_40, L_41, L_42, L_43, L_44, L_45, L_47, L_48, L_50, L_53, L_57, L_59, L_60, L_61, L_63, L_64, L_97, L_100, L_101, L_102, L_103, L_122, L_130, L_216, L_255, L_364, L_400, L_402, L_420, L_728, L_768, L_999, L_1000, L_1093, L_1872, L_2000, L_9999, L_12345, L_252645135, L_858993459, L_1103515245, L_1431655765, Lm_1, Lm_2, Lm_8, N_zero, N_cast, N_add, N_mul, N_sub, N_addM, N_lt_tp, N_lt_fp, N_le_tp, N_le_fp, N_eq_tp, N_eq_fp, MN_ltp, MN_lep, NM_ltp, NM_lep, NM_eqp, MN_eqp, MM_lt_tp, MM_lt_fp, MM_le_tp, MM_le_fp, MM_eq_tp, MM_eq_fp, N_cl, N_in_t, N_in_f, M_in, N_div, N_rem, N_nb0, N_nb1, cond_true, cond_false, Bool.not_true, Bool.not_false, Bool.and_true, Bool.true_and, Bool.and_false, Bool.false_and, decide_true, decide_false, Option.bind_some, Option.bind_none]
    refine hk h ⟨I.1, fun w' q hw' hq => ?_⟩
    rw [I.2 w' q hw' hq]
    by_cases a : (w' < w ∧ q < p) ∨ (w' = w ∧ q < k)
    · rw [if_pos a, if_pos (by omega)]
    · rw [if_neg a, if_neg (by omega)]
  | succ m ih =>
    intro k hkm h I
    rw [q_M_rights_L12_eq]
    simp (disch := omega) only [L_0, L_1, L_2, L_3, L_4, L_5, L_6, L_7, L_8, L_9, L_10, L_11, L_12, L_13, L_14, L_15, L_16, L_17, L_18, L_19, L_20, L_21, L_22, L_23, L_24, L_25, L_26, L_27, L_28, L_29, L_30, L_31, L_32, L_33, L_34, L_35, L_40, L_41, L_42, L_43, L_44, L_45, L_47, L_48, L_50, L_53, L_57, L_59, L_60, L_61, L_63, L_64, L_97, L_100, L_101, L_102, L_103, L_122, L_130, L_216, L_255, L_364, L_400, L_402, L_420, L_728, L_768, L_999, L_1000, L_1093, L_1872, L_2000, L_9999, L_12345, L_252645135, L_858993459, L_1103515245, L_1431655765, Lm_1, Lm_2, Lm_8, N_zero, N_cast, N_add, N_mul, N_sub, N_addM, N_lt_tp, N_lt_fp, N_le_tp, N_le_fp, N_eq_tp, N_eq_fp, MN_ltp, MN_lep, NM_ltp, NM_lep, NM_eqp, MN_eqp, MM_lt_tp, MM_lt_fp, MM_le_tp, MM_le_fp, MM_eq_tp, MM_eq_fp, N_cl, N_in_t, N_in_f, M_in, N_div, N_rem, N_nb0, N_nb1, cond_true, cond_false, Bool.not_true, Bool.not_false, Bool.and_true, Bool.true_and, Bool.and_false, Bool.false_and, decide_true, decide_false, Option.bind_some, Option.bind_none]
    rw [bt_low w (by omega)]
    refine ih (k + 1) (by omega) _ ⟨Fr_trans I.1 (Fr_iu rfl), fun w' q hw' hq => ?_⟩
    by_cases e : 6 * w' + q = 6 * w + k
    · rw [e, iu_at, if_pos (by omega), show w' = w by omega]
    · rw [iu_ne e, I.2 w' q hw' hq]
      by_cases a : (w' < w ∧ q < p) ∨ (w' = w ∧ q < k)
      · rw [if_pos a, if_pos (by omega)]
      · rw [if_neg a, if_neg (by omega)]
theorem M_rights_L2 (hA : wa_ok A) {h0 : wb_H} (hM : MA h0 s l A) {p : Nat} (hp : p ≤ 6) : ∀ m w, w + m = nw A → ∀ h, inR h0 h A p w 0 → Ok (q_M_rights_L2 sc h (nN p) (nN w)) (fun h' => Fr [97] h0 h' ∧ ∀ w q, w < nw A → q < 6 → h'.1 97 0 (6 * w + q) = if q < p then nN (tb w 0) else h0.1 97 0 (6 * w + q)) := by
  have h128 := nw_le hA
  intro m
  induction m with
  | zero =>
    intro w hw h I
    rw [q_M_rights_L2_eq, M_worlds hA (MA_fr I.1 rfl hM), Option.bind_some]
    simp (disch := omega) only [L_0, L_1, L_2, L_3, L_4, L_5, L_6, L_7, L_8, L_9, L_10, L_11, L_12, L_13, L_14, L_15, L_16, L_17, L_18, L_19, L_20, L_21, L_22, L_23, L_24, L_25, L_26, L_27, L_28, L_29, L_30, L_31, L_32, L_33, L_34, L_35, L_40, L_41, L_42, L_43, L_44, L_45, L_47, L_48, L_50, L_53, L_57, L_59, L_60, L_61, L_63, L_64, L_97, L_100, L_101, L_102, L_103, L_122, L_130, L_216, L_255, L_364, L_400, L_402, L_420, L_728, L_768, L_999, L_1000, L_1093, L_1872, L_2000, L_9999, L_12345, L_252645135, L_858993459, L_1103515245, L_1431655765, Lm_1, Lm_2, Lm_8, N_zero, N_cast, N_add, N_mul, N_sub, N_addM, N_lt_tp, N_lt_fp, N_le_tp, N_le_fp, N_eq_tp, N_eq_fp, MN_ltp, MN_lep, NM_ltp, NM_lep, NM_eqp, MN_eqp, MM_lt_tp, MM_lt_fp, MM_le_tp, MM_le_fp, MM_eq_tp, MM_eq_fp, N_cl, N_in_t, N_in_f, M_in, N_div, N_rem, N_nb0, N_nb1, cond_true, cond_false, Bool.not_true, Bool.not_false, Bool.and_true, Bool.true_and, Bool.and_false, Bool.false_and, decide_true, decide_false, Option.bind_some, Option.bind_none]
    refine Ok_some ⟨I.1, fun w' q hw' hq => ?_⟩
    rw [I.2 w' q hw' hq]
    by_cases a : q < p
    · rw [if_pos a, if_pos (by omega)]
    · rw [if_neg a, if_neg (by omega)]
  | succ m ih =>
    intro w hw h I
    rw [q_M_rights_L2_eq, M_worlds hA (MA_fr I.1 rfl hM), Option.bind_some]
    simp (disch := omega) only [L_0, L_1, L_2, L_3, L_4, L_5, L_6, L_7, L_8, L_9, L_10, L_11, L_12, L_13, L_14, L_15, L_16, L_17, L_18, L_19, L_20, L_21, L_22, L_23, L_24, L_25, L_26, L_27, L_28, L_29, L_30, L_31, L_32, L_33, L_34, L_35, L_40, L_41, L_42, L_43, L_44, L_45, L_47, L_48, L_50, L_53, L_57, L_59, L_60, L_61, L_63, L_64, L_97, L_100, L_101, L_102, L_103, L_122, L_130, L_216, L_255, L_364, L_400, L_402, L_420, L_728, L_768, L_999, L_1000, L_1093, L_1872, L_2000, L_9999, L_12345, L_252645135, L_858993459, L_1103515245, L_1431655765, Lm_1, Lm_2, Lm_8, N_zero, N_cast, N_add, N_mul, N_sub, N_addM, N_lt_tp, N_lt_fp, N_le_tp, N_le_fp, N_eq_tp, N_eq_fp, MN_ltp, MN_lep, NM_ltp, NM_lep, NM_eqp, MN_eqp, MM_lt_tp, MM_lt_fp, MM_le_tp, MM_le_fp, MM_eq_tp, MM_eq_fp, N_cl, N_in_t, N_in_f, M_in, N_div, N_rem, N_nb0, N_nb1, cond_true, cond_false, Bool.not_true, Bool.not_false, Bool.and_true, Bool.true_and, Bool.and_false, Bool.false_and, decide_true, decide_false, Option.bind_some, Option.bind_none]
    exact M_rights_L12 hA hp (by omega) (ih (w + 1) (by omega)) p 0 (Nat.zero_add _) h I
theorem M_rights (hA : wa_ok A) {h : wb_H} (hM : MA h s l A) {p : Nat} (hp : p ≤ 6) : Ok (q_M_rights sc h (nN p)) (fun h' => Fr [97] h h' ∧ ∀ w q, w < nw A → q < 6 → h'.1 97 0 (6 * w + q) = if q < p then nN (tb w 0) else h.1 97 0 (6 * w + q)) := by
  rw [q_M_rights_eq]
  refine M_rights_L2 hA hM hp (nw A) 0 (Nat.zero_add _) h ⟨Fr_refl _ _, fun w q _ _ => ?_⟩
  rw [if_neg (by omega)]
def inWt (h0 h : wb_H) (A : wa) (w : Nat) : Prop := Fr [98] h0 h ∧ ∀ w', w' < w → h.1 98 0 w' = nN (wt A w')
theorem M_fillsWeights_L44 (hA : wa_ok A) {h0 : wb_H} (hM : MA h0 s l A) {P : wb_H → Prop} {w : Nat} (hw : w < nw A) (hk : ∀ h, inWt h0 h A (w + 1) → Ok (q_M_fillsWeights_L2 sc h (nN (w + 1))) P) {h : wb_H} (I : inWt h0 h A w) : ∀ m j, j + m = an A → Ok (q_M_fillsWeights_L44 sc h (nN w) (nN (wc A (tb w 0) * pm j (wf A w))) (nN j)) P := by
  have h128 := nw_le hA
  have h6 := hA.1
  have M1 := MA_fr I.1 rfl hM
  obtain ⟨a1, a2, a3, -⟩ := M1
  have M1 := MA_fr I.1 rfl hM
  intro m
  induction m with
  | zero =>
    intro j hj
    rw [q_M_fillsWeights_L44_eq]
    simp (disch := omega) only [L_0, L_1, L_2, L_3, L_4, L_5, L_6, L_7, L_8, L_9, L_10, L_11, L_12, L_13, L_14, L_15, L_16, L_17, L_18, L_19, L_20, L_21, L_22, L_23, L_24, L_25, L_26, L_27, L_28, L_29, L_30, L_31, L_32, L_33, L_34, L_35, L_40, L_41, L_42, L_43, L_44, L_45, L_47, L_48, L_50, L_53, L_57, L_59, L_60, L_61, L_63, L_64, L_97, L_100, L_101, L_102, L_103, L_122, L_130, L_216, L_255, L_364, L_400, L_402, L_420, L_728, L_768, L_999, L_1000, L_1093, L_1872, L_2000, L_9999, L_12345, L_252645135, L_858993459, L_1103515245, L_1431655765, Lm_1, Lm_2, Lm_8, N_zero, N_cast, N_add, N_mul, N_sub, N_addM, N_lt_tp, N_lt_fp, N_le_tp, N_le_fp, N_eq_tp, N_eq_fp, MN_ltp, MN_lep, NM_ltp, NM_lep, NM_eqp, MN_eqp, MM_lt_tp, MM_lt_fp, MM_le_tp, MM_le_fp, MM_eq_tp, MM_eq_fp, N_cl, N_in_t, N_in_f, M_in, N_div, N_rem, N_nb0, N_nb1, cond_true, cond_false, Bool.not_true, Bool.not_false, Bool.and_true, Bool.true_and, Bool.and_false, Bool.false_and, decide_true, decide_false, Option.bind_some, Option.bind_none, a2, a3]
    refine hk _ ⟨Fr_trans I.1 (Fr_iu rfl), fun w' hw' => ?_⟩
    by_cases e : w' = w
    · rw [e, iu_at]
      rw [Nat.add_zero] at hj
      rw [hj]
      rfl
    · rw [iu_ne e]
      exact I.2 w' (by omega)
  | succ m ih =>
    intro j hj
    have hs := hA.2.2.2.2.1 j (by omega)
    have ih2 := ih (j + 1) (by omega)
    rw [show pm (j + 1) (wf A w) = pm j (wf A w) * wf A w j from rfl, ← Nat.mul_assoc] at ih2
    rw [q_M_fillsWeights_L44_eq]
    simp (disch := omega) only [L_0, L_1, L_2, L_3, L_4, L_5, L_6, L_7, L_8, L_9, L_10, L_11, L_12, L_13, L_14, L_15, L_16, L_17, L_18, L_19, L_20, L_21, L_22, L_23, L_24, L_25, L_26, L_27, L_28, L_29, L_30, L_31, L_32, L_33, L_34, L_35, L_40, L_41, L_42, L_43, L_44, L_45, L_47, L_48, L_50, L_53, L_57, L_59, L_60, L_61, L_63, L_64, L_97, L_100, L_101, L_102, L_103, L_122, L_130, L_216, L_255, L_364, L_400, L_402, L_420, L_728, L_768, L_999, L_1000, L_1093, L_1872, L_2000, L_9999, L_12345, L_252645135, L_858993459, L_1103515245, L_1431655765, Lm_1, Lm_2, Lm_8, N_zero, N_cast, N_add, N_mul, N_sub, N_addM, N_lt_tp, N_lt_fp, N_le_tp, N_le_fp, N_eq_tp, N_eq_fp, MN_ltp, MN_lep, NM_ltp, NM_lep, NM_eqp, MN_eqp, MM_lt_tp, MM_lt_fp, MM_le_tp, MM_le_fp, MM_eq_tp, MM_eq_fp, N_cl, N_in_t, N_in_f, M_in, N_div, N_rem, N_nb0, N_nb1, cond_true, cond_false, Bool.not_true, Bool.not_false, Bool.and_true, Bool.true_and, Bool.and_false, Bool.false_and, decide_true, decide_false, Option.bind_some, Option.bind_none, a2, a3, bt_shr w (show w < 128 by omega) (1 + j) (by omega), M_sureNow hA M1 (show j < an A by omega)]
    unfold wf at ih2 ⊢
    rcases N01 (tb_lt w (1 + j)) with e | e
    · rw [e] at ih2 ⊢
      simp (disch := omega) only [L_0, L_1, L_2, L_3, L_4, L_5, L_6, L_7, L_8, L_9, L_10, L_11, L_12, L_13, L_14, L_15, L_16, L_17, L_18, L_19, L_20, L_21, L_22, L_23, L_24, L_25, L_26, L_27, L_28, L_29, L_30, L_31, L_32, L_33, L_34, L_35, L_40, L_41, L_42, L_43, L_44, L_45, L_47, L_48, L_50, L_53, L_57, L_59, L_60, L_61, L_63, L_64, L_97, L_100, L_101, L_102, L_103, L_122, L_130, L_216, L_255, L_364, L_400, L_402, L_420, L_728, L_768, L_999, L_1000, L_1093, L_1872, L_2000, L_9999, L_12345, L_252645135, L_858993459, L_1103515245, L_1431655765, Lm_1, Lm_2, Lm_8, N_zero, N_cast, N_add, N_mul, N_sub, N_addM, N_lt_tp, N_lt_fp, N_le_tp, N_le_fp, N_eq_tp, N_eq_fp, MN_ltp, MN_lep, NM_ltp, NM_lep, NM_eqp, MN_eqp, MM_lt_tp, MM_lt_fp, MM_le_tp, MM_le_fp, MM_eq_tp, MM_eq_fp, N_cl, N_in_t, N_in_f, M_in, N_div, N_rem, N_nb0, N_nb1, cond_true, cond_false, Bool.not_true, Bool.not_false, Bool.and_true, Bool.true_and, Bool.and_false, Bool.false_and, decide_true, decide_false, Option.bind_some, Option.bind_none]
      rw [if_neg (by decide)] at ih2
      exact ih2
    · rw [e] at ih2 ⊢
      simp (disch := omega) only [L_0, L_1, L_2, L_3, L_4, L_5, L_6, L_7, L_8, L_9, L_10, L_11, L_12, L_13, L_14, L_15, L_16, L_17, L_18, L_19, L_20, L_21, L_22, L_23, L_24, L_25, L_26, L_27, L_28, L_29, L_30, L_31, L_32, L_33, L_34, L_35, L_40, L_41, L_42, L_43, L_44, L_45, L_47, L_48, L_50, L_53, L_57, L_59, L_60, L_61, L_63, L_64, L_97, L_100, L_101, L_102, L_103, L_122, L_130, L_216, L_255, L_364, L_400, L_402, L_420, L_728, L_768, L_999, L_1000, L_1093, L_1872, L_2000, L_9999, L_12345, L_252645135, L_858993459, L_1103515245, L_1431655765, Lm_1, Lm_2, Lm_8, N_zero, N_cast, N_add, N_mul, N_sub, N_addM, N_lt_tp, N_lt_fp, N_le_tp, N_le_fp, N_eq_tp, N_eq_fp, MN_ltp, MN_lep, NM_ltp, NM_lep, NM_eqp, MN_eqp, MM_lt_tp, MM_lt_fp, MM_le_tp, MM_le_fp, MM_eq_tp, MM_eq_fp, N_cl, N_in_t, N_in_f, M_in, N_div, N_rem, N_nb0, N_nb1, cond_true, cond_false, Bool.not_true, Bool.not_false, Bool.and_true, Bool.true_and, Bool.and_false, Bool.false_and, decide_true, decide_false, Option.bind_some, Option.bind_none]
      rw [if_pos rfl] at ih2
      exact ih2
theorem M_fillsWeights_L2 (hA : wa_ok A) {h0 : wb_H} (hM : MA h0 s l A) : ∀ m w, w + m = nw A → ∀ h, inWt h0 h A w → Ok (q_M_fillsWeights_L2 sc h (nN w)) (fun h' => inWt h0 h' A (nw A)) := by
  have h128 := nw_le hA
  have hB := hA.2.1
  intro m
  induction m with
  | zero =>
    intro w hw h I
    rw [q_M_fillsWeights_L2_eq, M_worlds hA (MA_fr I.1 rfl hM), Option.bind_some]
    simp (disch := omega) only [L_0, L_1, L_2, L_3, L_4, L_5, L_6, L_7, L_8, L_9, L_10, L_11, L_12, L_13, L_14, L_15, L_16, L_17, L_18, L_19, L_20, L_21, L_22, L_23, L_24, L_25, L_26, L_27, L_28, L_29, L_30, L_31, L_32, L_33, L_34, L_35, L_40, L_41, L_42, L_43, L_44, L_45, L_47, L_48, L_50, L_53, L_57, L_59, L_60, L_61, L_63, L_64, L_97, L_100, L_101, L_102, L_103, L_122, L_130, L_216, L_255, L_364, L_400, L_402, L_420, L_728, L_768, L_999, L_1000, L_1093, L_1872, L_2000, L_9999, L_12345, L_252645135, L_858993459, L_1103515245, L_1431655765, Lm_1, Lm_2, Lm_8, N_zero, N_cast, N_add, N_mul, N_sub, N_addM, N_lt_tp, N_lt_fp, N_le_tp, N_le_fp, N_eq_tp, N_eq_fp, MN_ltp, MN_lep, NM_ltp, NM_lep, NM_eqp, MN_eqp, MM_lt_tp, MM_lt_fp, MM_le_tp, MM_le_fp, MM_eq_tp, MM_eq_fp, N_cl, N_in_t, N_in_f, M_in, N_div, N_rem, N_nb0, N_nb1, cond_true, cond_false, Bool.not_true, Bool.not_false, Bool.and_true, Bool.true_and, Bool.and_false, Bool.false_and, decide_true, decide_false, Option.bind_some, Option.bind_none]
    rw [Nat.add_zero] at hw
    rw [← hw]
    exact Ok_some I
  | succ m ih =>
    intro w hw h I
    have M1 := MA_fr I.1 rfl hM
    obtain ⟨a1, a2, a3, a4, -⟩ := M1
    have key := M_fillsWeights_L44 (sc := sc) hA hM (by omega) (ih (w + 1) (by omega)) I (an A) 0 (Nat.zero_add _)
    rw [q_M_fillsWeights_L2_eq, M_worlds hA (MA_fr I.1 rfl hM), Option.bind_some]
    simp (disch := omega) only [L_0, L_1, L_2, L_3, L_4, L_5, L_6, L_7, L_8, L_9, L_10, L_11, L_12, L_13, L_14, L_15, L_16, L_17, L_18, L_19, L_20, L_21, L_22, L_23, L_24, L_25, L_26, L_27, L_28, L_29, L_30, L_31, L_32, L_33, L_34, L_35, L_40, L_41, L_42, L_43, L_44, L_45, L_47, L_48, L_50, L_53, L_57, L_59, L_60, L_61, L_63, L_64, L_97, L_100, L_101, L_102, L_103, L_122, L_130, L_216, L_255, L_364, L_400, L_402, L_420, L_728, L_768, L_999, L_1000, L_1093, L_1872, L_2000, L_9999, L_12345, L_252645135, L_858993459, L_1103515245, L_1431655765, Lm_1, Lm_2, Lm_8, N_zero, N_cast, N_add, N_mul, N_sub, N_addM, N_lt_tp, N_lt_fp, N_le_tp, N_le_fp, N_eq_tp, N_eq_fp, MN_ltp, MN_lep, NM_ltp, NM_lep, NM_eqp, MN_eqp, MM_lt_tp, MM_lt_fp, MM_le_tp, MM_le_fp, MM_eq_tp, MM_eq_fp, N_cl, N_in_t, N_in_f, M_in, N_div, N_rem, N_nb0, N_nb1, cond_true, cond_false, Bool.not_true, Bool.not_false, Bool.and_true, Bool.true_and, Bool.and_false, Bool.false_and, decide_true, decide_false, Option.bind_some, Option.bind_none, a2, a4, bt_low w (show w < 128 by omega)]
    rw [show pm 0 (wf A w) = 1 from rfl, Nat.mul_one] at key
    unfold wc at key
    rcases N01 (tb_lt w 0) with e | e
    · rw [e] at key ⊢
      simp (disch := omega) only [L_0, L_1, L_2, L_3, L_4, L_5, L_6, L_7, L_8, L_9, L_10, L_11, L_12, L_13, L_14, L_15, L_16, L_17, L_18, L_19, L_20, L_21, L_22, L_23, L_24, L_25, L_26, L_27, L_28, L_29, L_30, L_31, L_32, L_33, L_34, L_35, L_40, L_41, L_42, L_43, L_44, L_45, L_47, L_48, L_50, L_53, L_57, L_59, L_60, L_61, L_63, L_64, L_97, L_100, L_101, L_102, L_103, L_122, L_130, L_216, L_255, L_364, L_400, L_402, L_420, L_728, L_768, L_999, L_1000, L_1093, L_1872, L_2000, L_9999, L_12345, L_252645135, L_858993459, L_1103515245, L_1431655765, Lm_1, Lm_2, Lm_8, N_zero, N_cast, N_add, N_mul, N_sub, N_addM, N_lt_tp, N_lt_fp, N_le_tp, N_le_fp, N_eq_tp, N_eq_fp, MN_ltp, MN_lep, NM_ltp, NM_lep, NM_eqp, MN_eqp, MM_lt_tp, MM_lt_fp, MM_le_tp, MM_le_fp, MM_eq_tp, MM_eq_fp, N_cl, N_in_t, N_in_f, M_in, N_div, N_rem, N_nb0, N_nb1, cond_true, cond_false, Bool.not_true, Bool.not_false, Bool.and_true, Bool.true_and, Bool.and_false, Bool.false_and, decide_true, decide_false, Option.bind_some, Option.bind_none]
      rw [if_neg (by decide)] at key
      exact key
    · rw [e] at key ⊢
      simp (disch := omega) only [L_0, L_1, L_2, L_3, L_4, L_5, L_6, L_7, L_8, L_9, L_10, L_11, L_12, L_13, L_14, L_15, L_16, L_17, L_18, L_19, L_20, L_21, L_22, L_23, L_24, L_25, L_26, L_27, L_28, L_29, L_30, L_31, L_32, L_33, L_34, L_35, L_40, L_41, L_42, L_43, L_44, L_45, L_47, L_48, L_50, L_53, L_57, L_59, L_60, L_61, L_63, L_64, L_97, L_100, L_101, L_102, L_103, L_122, L_130, L_216, L_255, L_364, L_400, L_402, L_420, L_728, L_768, L_999, L_1000, L_1093, L_1872, L_2000, L_9999, L_12345, L_252645135, L_858993459, L_1103515245, L_1431655765, Lm_1, Lm_2, Lm_8, N_zero, N_cast, N_add, N_mul, N_sub, N_addM, N_lt_tp, N_lt_fp, N_le_tp, N_le_fp, N_eq_tp, N_eq_fp, MN_ltp, MN_lep, NM_ltp, NM_lep, NM_eqp, MN_eqp, MM_lt_tp, MM_lt_fp, MM_le_tp, MM_le_fp, MM_eq_tp, MM_eq_fp, N_cl, N_in_t, N_in_f, M_in, N_div, N_rem, N_nb0, N_nb1, cond_true, cond_false, Bool.not_true, Bool.not_false, Bool.and_true, Bool.true_and, Bool.and_false, Bool.false_and, decide_true, decide_false, Option.bind_some, Option.bind_none]
      rw [if_pos rfl] at key
      exact key
theorem M_fillsWeights (hA : wa_ok A) {h : wb_H} (hM : MA h s l A) : Ok (q_M_fillsWeights sc h) (fun h' => Fr [98] h h' ∧ ∀ w, w < nw A → h'.1 98 0 w = nN (wt A w)) := by
  rw [q_M_fillsWeights_eq]
  exact M_fillsWeights_L2 hA hM (nw A) 0 (Nat.zero_add _) h ⟨Fr_refl _ _, fun w hw => by omega⟩
theorem M_houseAt_L (hA : wa_ok A) {h : wb_H} (hM : MA h s l A) {p : Nat} (hp : p < an A) : ∀ m j, j + m = an A → (∀ i, i < j → apl A i ≠ p) → q_M_houseAt_L2 sc h (nN p) (nN j) = some (nN (aho A p), h) := by
  have h6 := hA.1
  obtain ⟨a1, a2, a3, a4, a5, a6, a7, -⟩ := hM
  have hh := hA.2.2.2.1 p hp
  intro m
  induction m with
  | zero =>
    intro j hj g
    exact absurd hh.2 (g _ (by omega))
  | succ m ih =>
    intro j hj g
    have b1 := hA.2.2.1 j (by omega)
    have f1 := a7 j (by omega)
    rw [q_M_houseAt_L2_eq]
    by_cases e : apl A j = p
    · simp (disch := omega) only [L_0, L_1, L_2, L_3, L_4, L_5, L_6, L_7, L_8, L_9, L_10, L_11, L_12, L_13, L_14, L_15, L_16, L_17, L_18, L_19, L_20, L_21, L_22, L_23, L_24, L_25, L_26, L_27, L_28, L_29, L_30, L_31, L_32, L_33, L_34, L_35, L_40, L_41, L_42, L_43, L_44, L_45, L_47, L_48, L_50, L_53, L_57, L_59, L_60, L_61, L_63, L_64, L_97, L_100, L_101, L_102, L_103, L_122, L_130, L_216, L_255, L_364, L_400, L_402, L_420, L_728, L_768, L_999, L_1000, L_1093, L_1872, L_2000, L_9999, L_12345, L_252645135, L_858993459, L_1103515245, L_1431655765, Lm_1, Lm_2, Lm_8, N_zero, N_cast, N_add, N_mul, N_sub, N_addM, N_lt_tp, N_lt_fp, N_le_tp, N_le_fp, N_eq_tp, N_eq_fp, MN_ltp, MN_lep, NM_ltp, NM_lep, NM_eqp, MN_eqp, MM_lt_tp, MM_lt_fp, MM_le_tp, MM_le_fp, MM_eq_tp, MM_eq_fp, N_cl, N_in_t, N_in_f, M_in, N_div, N_rem, N_nb0, N_nb1, cond_true, cond_false, Bool.not_true, Bool.not_false, Bool.and_true, Bool.true_and, Bool.and_false, Bool.false_and, decide_true, decide_false, Option.bind_some, Option.bind_none, a2, a3, f1]
      rw [← e, b1.2]
    · simp (disch := omega) only [L_0, L_1, L_2, L_3, L_4, L_5, L_6, L_7, L_8, L_9, L_10, L_11, L_12, L_13, L_14, L_15, L_16, L_17, L_18, L_19, L_20, L_21, L_22, L_23, L_24, L_25, L_26, L_27, L_28, L_29, L_30, L_31, L_32, L_33, L_34, L_35, L_40, L_41, L_42, L_43, L_44, L_45, L_47, L_48, L_50, L_53, L_57, L_59, L_60, L_61, L_63, L_64, L_97, L_100, L_101, L_102, L_103, L_122, L_130, L_216, L_255, L_364, L_400, L_402, L_420, L_728, L_768, L_999, L_1000, L_1093, L_1872, L_2000, L_9999, L_12345, L_252645135, L_858993459, L_1103515245, L_1431655765, Lm_1, Lm_2, Lm_8, N_zero, N_cast, N_add, N_mul, N_sub, N_addM, N_lt_tp, N_lt_fp, N_le_tp, N_le_fp, N_eq_tp, N_eq_fp, MN_ltp, MN_lep, NM_ltp, NM_lep, NM_eqp, MN_eqp, MM_lt_tp, MM_lt_fp, MM_le_tp, MM_le_fp, MM_eq_tp, MM_eq_fp, N_cl, N_in_t, N_in_f, M_in, N_div, N_rem, N_nb0, N_nb1, cond_true, cond_false, Bool.not_true, Bool.not_false, Bool.and_true, Bool.true_and, Bool.and_false, Bool.false_and, decide_true, decide_false, Option.bind_some, Option.bind_none, a2, a3, f1]
      refine ih (j + 1) (by omega) fun i hi => ?_
      by_cases t : i = j
      · rw [t]; exact e
      · exact g i (by omega)
theorem M_houseAt (hA : wa_ok A) {h : wb_H} (hM : MA h s l A) {p : Nat} (hp : p < an A) : q_M_houseAt sc h (nN p) = some (nN (aho A p), h) := by
  rw [q_M_houseAt_eq]
  exact M_houseAt_L hA hM hp (an A) 0 (Nat.zero_add _) (fun i hi => by omega)
def oW (h : wb_H) (A : wa) : Prop := ∀ w, w < nw A → h.1 98 0 w = nN (wt A w)
def oQ (h : wb_H) (A : wa) (Q : Nat → Nat) : Prop := ∀ w, w < nw A → ∀ q, q < 6 → h.1 97 0 (6 * w + q) = nN (dg (Q w) q)
def SCR : List Nat := [93, 94, 97, 98, 99, 1046]
theorem oW_fr {L : List Nat} {h h' : wb_H} (F : Fr L h h') (d : wb_mem 98 L = false) (g : oW h A) : oW h' A := fun w hw => (Fr_i F (by exact d)).trans (g w hw)
theorem oQ_fr {L : List Nat} {h h' : wb_H} {Q : Nat → Nat} (F : Fr L h h') (d : wb_mem 97 L = false) (g : oQ h A Q) : oQ h' A Q := fun w hw q hq => (Fr_i F (by exact d)).trans (g w hw q hq)
theorem M_fillsOut_L62 (hA : wa_ok A) {h0 : wb_H} (hM : MA h0 s l A) {P : wb_H → Prop} {R p : Nat} (hp : p < an A) (hk : ∀ h, Fr SCR h0 h → oW h A → oQ h A (ro A R (p + 1)) → Ok (q_M_fillsOut_L28 sc h (nN (p + 1))) P) :
    ∀ m w, w + m = nw A → ∀ h, Fr SCR h0 h → oW h A → oQ h A (fun w' => if w' < w then ro A R (p + 1) w' else rr A R p w') → Ok (q_M_fillsOut_L62 sc h (nN p) (nN (aho A p)) (nN w)) P := by
  have h128 := nw_le hA
  have h6 := hA.1
  have hh := hA.2.2.2.1 p hp
  intro m
  induction m with
  | zero =>
    intro w hw h F W I
    rw [q_M_fillsOut_L62_eq, M_worlds hA (MA_fr F rfl hM), Option.bind_some]
    simp (disch := omega) only [L_0, L_1, L_2, L_3, L_4, L_5, L_6, L_7, L_8, L_9, L_10, L_11, L_12, L_13, L_14, L_15, L_16, L_17, L_18, L_19, L_20, L_21, L_22, L_23, L_24, L_25, L_26, L_27, L_28, L_29, L_30, L_31, L_32, L_33, L_34, L_35, L_40, L_41, L_42, L_43, L_44, L_45, L_47, L_48, L_50, L_53, L_57, L_59, L_60, L_61, L_63, L_64, L_97, L_100, L_101, L_102, L_103, L_122, L_130, L_216, L_255, L_364, L_400, L_402, L_420, L_728, L_768, L_999, L_1000, L_1093, L_1872, L_2000, L_9999, L_12345, L_252645135, L_858993459, L_1103515245, L_1431655765, Lm_1, Lm_2, Lm_8, N_zero, N_cast, N_add, N_mul, N_sub, N_addM, N_lt_tp, N_lt_fp, N_le_tp, N_le_fp, N_eq_tp, N_eq_fp, MN_ltp, MN_lep, NM_ltp, NM_lep, NM_eqp, MN_eqp, MM_lt_tp, MM_lt_fp, MM_le_tp, MM_le_fp, MM_eq_tp, MM_eq_fp, N_cl, N_in_t, N_in_f, M_in, N_div, N_rem, N_nb0, N_nb1, cond_true, cond_false, Bool.not_true, Bool.not_false, Bool.and_true, Bool.true_and, Bool.and_false, Bool.false_and, decide_true, decide_false, Option.bind_some, Option.bind_none]
    refine hk h F W fun w' hw' q hq => ?_
    have := I w' hw' q hq
    simp only [if_pos (show w' < w by omega)] at this
    exact this
  | succ m ih =>
    intro w hw h F W I
    rw [q_M_fillsOut_L62_eq, M_worlds hA (MA_fr F rfl hM), Option.bind_some]
    simp (disch := omega) only [L_0, L_1, L_2, L_3, L_4, L_5, L_6, L_7, L_8, L_9, L_10, L_11, L_12, L_13, L_14, L_15, L_16, L_17, L_18, L_19, L_20, L_21, L_22, L_23, L_24, L_25, L_26, L_27, L_28, L_29, L_30, L_31, L_32, L_33, L_34, L_35, L_40, L_41, L_42, L_43, L_44, L_45, L_47, L_48, L_50, L_53, L_57, L_59, L_60, L_61, L_63, L_64, L_97, L_100, L_101, L_102, L_103, L_122, L_130, L_216, L_255, L_364, L_400, L_402, L_420, L_728, L_768, L_999, L_1000, L_1093, L_1872, L_2000, L_9999, L_12345, L_252645135, L_858993459, L_1103515245, L_1431655765, Lm_1, Lm_2, Lm_8, N_zero, N_cast, N_add, N_mul, N_sub, N_addM, N_lt_tp, N_lt_fp, N_le_tp, N_le_fp, N_eq_tp, N_eq_fp, MN_ltp, MN_lep, NM_ltp, NM_lep, NM_eqp, MN_eqp, MM_lt_tp, MM_lt_fp, MM_le_tp, MM_le_fp, MM_eq_tp, MM_eq_fp, N_cl, N_in_t, N_in_f, M_in, N_div, N_rem, N_nb0, N_nb1, cond_true, cond_false, Bool.not_true, Bool.not_false, Bool.and_true, Bool.true_and, Bool.and_false, Bool.false_and, decide_true, decide_false, Option.bind_some, Option.bind_none]
    refine Ok_bind (M_aheadIn (by omega)) ?_
    rintro h1 ⟨F1, g1⟩
    have FF1 : Fr SCR h0 h1 := Fr_trans F (Fr_mono F1 rfl)
    have M1 := MA_fr FF1 rfl hM
    have I1 := oQ_fr F1 rfl I
    have r1 : ∀ q, q < 6 → h1.1 99 0 q = nN (dg (rr A R p w) q) := fun q hq => by
      have := I w (by omega) q hq
      simp only [if_neg (show ¬ w < w by omega)] at this
      exact (g1 q hq).trans this
    rw [M_signIn (by omega) (by omega), Option.bind_some]
    refine Ok_bind (M_putOf hA M1 hh.1 hh.2 rfl (sg_le w _) r1 I1 (oW_fr F1 rfl W)) ?_
    rintro x ⟨x1, x2⟩
    have mod : (fun w' => (if w' < w then ro A R (p + 1) w' else rr A R p w') % 3 ^ p) = rr A R p := by
      funext w'
      by_cases t : w' < w
      · rw [if_pos t, ro_succ, Nat.add_mul_mod_self_left, Nat.mod_eq_of_lt (rr_lt hA R p w')]
      · rw [if_neg t, Nat.mod_eq_of_lt (rr_lt hA R p w')]
    rw [mod, Nat.mod_eq_of_lt (rr_lt hA R p w)] at x1
    have FF2 : Fr SCR h0 x.2 := Fr_trans FF1 (Fr_mono x2 rfl)
    have I2 := oQ_fr x2 rfl I1
    refine ih (w + 1) (by omega) _ (Fr_trans FF2 (Fr_iu rfl)) (oW_fr (L := [97]) (Fr_iu rfl) rfl (oW_fr x2 rfl (oW_fr F1 rfl W))) fun w' hw' q hq => ?_
    by_cases e : 6 * w' + q = 6 * w + p
    · have ew : w' = w := by omega
      have eq : q = p := by omega
      rw [e, iu_at, x1, ew, eq]
      simp only [if_pos (show w < w + 1 by omega)]
      rw [dg_ro_top hA]
    · rw [iu_ne e, I2 w' hw' q hq]
      congr 1
      by_cases t : w' < w
      · simp only [if_pos t, if_pos (show w' < w + 1 by omega)]
      · by_cases t2 : w' = w
        · subst t2
          simp only [if_neg t, if_pos (show w' < w' + 1 by omega)]
          by_cases t3 : q < p
          · rw [dg_ro_low t3]
          · rw [dg_hi (rr_lt hA R p w') (by omega), dg_hi (ro_lt hA R (p + 1) w') (by omega)]
        · simp only [if_neg t, if_neg (show ¬ w' < w + 1 by omega)]
def fO (h : wb_H) (A : wa) (R : Nat) : Prop := oW h A ∧ oQ h A (rr A R (an A))
theorem M_fillsOut_L28 (hA : wa_ok A) {h0 : wb_H} (hM : MA h0 s l A) {R : Nat} (hR : R ≤ an A) (hrd : h0.1 21 0 50 = nN R) :
    ∀ m p, p + m = an A → ∀ h, Fr SCR h0 h → oW h A → oQ h A (ro A R p) → Ok (q_M_fillsOut_L28 sc h (nN p)) (fun h' => Fr SCR h0 h' ∧ fO h' A R) := by
  have h6 := hA.1
  have post : ∀ p, p ≤ an A → ∀ h h', oQ h A (ro A R p) → p = R → (∀ w q, w < nw A → q < 6 → h'.1 97 0 (6 * w + q) = if q < p then nN (tb w 0) else h.1 97 0 (6 * w + q)) → oQ h' A (rr A R p) := by
    intro p hp h h' I e g w hw q hq
    rw [g w q hw hq, e, rr_at]
    rw [rgt_dgs (p := R) (by omega)]
    by_cases t : q < R
    · rw [if_pos t, if_pos t]
    · rw [if_neg t, if_neg t, I w hw q hq, dg_hi (ro_lt hA R p w) (by omega)]
  intro m
  induction m with
  | zero =>
    intro p hp h F W I
    have M1 := MA_fr F rfl hM
    obtain ⟨a1, a2, a3, -⟩ := M1
    have r1 : h.1 21 0 50 = nN R := (Fr_i F (by rfl)).trans hrd
    rw [Nat.add_zero] at hp
    subst hp
    rw [q_M_fillsOut_L28_eq]
    by_cases e : R = an A
    · simp (disch := omega) only [L_0, L_1, L_2, L_3, L_4, L_5, L_6, L_7, L_8, L_9, L_10, L_11, L_12, L_13, L_14, L_15, L_16, L_17, L_18, L_19, L_20, L_21, L_22, L_23, L_24, L_25, L_26, L_27, L_28, L_29, L_30, L_31, L_32, L_33, L_34, L_35, L_40, L_41, L_42, L_43, L_44, L_45, L_47, L_48, L_50, L_53, L_57, L_59, L_60, L_61, L_63, L_64, L_97, L_100, L_101, L_102, L_103, L_122, L_130, L_216, L_255, L_364, L_400, L_402, L_420, L_728, L_768, L_999, L_1000, L_1093, L_1872, L_2000, L_9999, L_12345, L_252645135, L_858993459, L_1103515245, L_1431655765, Lm_1, Lm_2, Lm_8, N_zero, N_cast, N_add, N_mul, N_sub, N_addM, N_lt_tp, N_lt_fp, N_le_tp, N_le_fp, N_eq_tp, N_eq_fp, MN_ltp, MN_lep, NM_ltp, NM_lep, NM_eqp, MN_eqp, MM_lt_tp, MM_lt_fp, MM_le_tp, MM_le_fp, MM_eq_tp, MM_eq_fp, N_cl, N_in_t, N_in_f, M_in, N_div, N_rem, N_nb0, N_nb1, cond_true, cond_false, Bool.not_true, Bool.not_false, Bool.and_true, Bool.true_and, Bool.and_false, Bool.false_and, decide_true, decide_false, Option.bind_some, Option.bind_none, a2, a3, r1]
      refine Ok_bind (M_rights hA (MA_fr F rfl hM) (by omega)) ?_
      rintro h1 ⟨F1, g1⟩
      refine Ok_some ⟨Fr_trans F (Fr_mono F1 rfl), oW_fr F1 rfl W, post (an A) (Nat.le_refl _) h h1 I e.symm ?_⟩
      rw [e] at g1
      exact g1
    · simp (disch := omega) only [L_0, L_1, L_2, L_3, L_4, L_5, L_6, L_7, L_8, L_9, L_10, L_11, L_12, L_13, L_14, L_15, L_16, L_17, L_18, L_19, L_20, L_21, L_22, L_23, L_24, L_25, L_26, L_27, L_28, L_29, L_30, L_31, L_32, L_33, L_34, L_35, L_40, L_41, L_42, L_43, L_44, L_45, L_47, L_48, L_50, L_53, L_57, L_59, L_60, L_61, L_63, L_64, L_97, L_100, L_101, L_102, L_103, L_122, L_130, L_216, L_255, L_364, L_400, L_402, L_420, L_728, L_768, L_999, L_1000, L_1093, L_1872, L_2000, L_9999, L_12345, L_252645135, L_858993459, L_1103515245, L_1431655765, Lm_1, Lm_2, Lm_8, N_zero, N_cast, N_add, N_mul, N_sub, N_addM, N_lt_tp, N_lt_fp, N_le_tp, N_le_fp, N_eq_tp, N_eq_fp, MN_ltp, MN_lep, NM_ltp, NM_lep, NM_eqp, MN_eqp, MM_lt_tp, MM_lt_fp, MM_le_tp, MM_le_fp, MM_eq_tp, MM_eq_fp, N_cl, N_in_t, N_in_f, M_in, N_div, N_rem, N_nb0, N_nb1, cond_true, cond_false, Bool.not_true, Bool.not_false, Bool.and_true, Bool.true_and, Bool.and_false, Bool.false_and, decide_true, decide_false, Option.bind_some, Option.bind_none, a2, a3, r1]
      refine Ok_some ⟨F, W, ?_⟩
      rw [rr_ne (fun q => e q.symm)]
      exact I
  | succ m ih =>
    intro p hp h F W I
    have M1 := MA_fr F rfl hM
    obtain ⟨a1, a2, a3, -⟩ := M1
    have r1 : h.1 21 0 50 = nN R := (Fr_i F (by rfl)).trans hrd
    rw [q_M_fillsOut_L28_eq]
    have key := M_fillsOut_L62 (sc := sc) hA hM (R := R) (show p < an A by omega) (fun h a b c => ih (p + 1) (by omega) h a b c) (nw A) 0 (Nat.zero_add _)
    by_cases e : p = R
    · simp (disch := omega) only [L_0, L_1, L_2, L_3, L_4, L_5, L_6, L_7, L_8, L_9, L_10, L_11, L_12, L_13, L_14, L_15, L_16, L_17, L_18, L_19, L_20, L_21, L_22, L_23, L_24, L_25, L_26, L_27, L_28, L_29, L_30, L_31, L_32, L_33, L_34, L_35, L_40, L_41, L_42, L_43, L_44, L_45, L_47, L_48, L_50, L_53, L_57, L_59, L_60, L_61, L_63, L_64, L_97, L_100, L_101, L_102, L_103, L_122, L_130, L_216, L_255, L_364, L_400, L_402, L_420, L_728, L_768, L_999, L_1000, L_1093, L_1872, L_2000, L_9999, L_12345, L_252645135, L_858993459, L_1103515245, L_1431655765, Lm_1, Lm_2, Lm_8, N_zero, N_cast, N_add, N_mul, N_sub, N_addM, N_lt_tp, N_lt_fp, N_le_tp, N_le_fp, N_eq_tp, N_eq_fp, MN_ltp, MN_lep, NM_ltp, NM_lep, NM_eqp, MN_eqp, MM_lt_tp, MM_lt_fp, MM_le_tp, MM_le_fp, MM_eq_tp, MM_eq_fp, N_cl, N_in_t, N_in_f, M_in, N_div, N_rem, N_nb0, N_nb1, cond_true, cond_false, Bool.not_true, Bool.not_false, Bool.and_true, Bool.true_and, Bool.and_false, Bool.false_and, decide_true, decide_false, Option.bind_some, Option.bind_none, a2, a3, r1]
      refine Ok_bind (M_rights hA (MA_fr F rfl hM) (by omega)) ?_
      rintro h1 ⟨F1, g1⟩
      have FF1 : Fr SCR h0 h1 := Fr_trans F (Fr_mono F1 rfl)
      rw [M_houseAt hA (MA_fr FF1 rfl hM) (by omega), Option.bind_some]
      exact key h1 FF1 (oW_fr F1 rfl W) (post p (by omega) h h1 I e g1)
    · simp (disch := omega) only [L_0, L_1, L_2, L_3, L_4, L_5, L_6, L_7, L_8, L_9, L_10, L_11, L_12, L_13, L_14, L_15, L_16, L_17, L_18, L_19, L_20, L_21, L_22, L_23, L_24, L_25, L_26, L_27, L_28, L_29, L_30, L_31, L_32, L_33, L_34, L_35, L_40, L_41, L_42, L_43, L_44, L_45, L_47, L_48, L_50, L_53, L_57, L_59, L_60, L_61, L_63, L_64, L_97, L_100, L_101, L_102, L_103, L_122, L_130, L_216, L_255, L_364, L_400, L_402, L_420, L_728, L_768, L_999, L_1000, L_1093, L_1872, L_2000, L_9999, L_12345, L_252645135, L_858993459, L_1103515245, L_1431655765, Lm_1, Lm_2, Lm_8, N_zero, N_cast, N_add, N_mul, N_sub, N_addM, N_lt_tp, N_lt_fp, N_le_tp, N_le_fp, N_eq_tp, N_eq_fp, MN_ltp, MN_lep, NM_ltp, NM_lep, NM_eqp, MN_eqp, MM_lt_tp, MM_lt_fp, MM_le_tp, MM_le_fp, MM_eq_tp, MM_eq_fp, N_cl, N_in_t, N_in_f, M_in, N_div, N_rem, N_nb0, N_nb1, cond_true, cond_false, Bool.not_true, Bool.not_false, Bool.and_true, Bool.true_and, Bool.and_false, Bool.false_and, decide_true, decide_false, Option.bind_some, Option.bind_none, a2, a3, r1]
      rw [M_houseAt hA (MA_fr F rfl hM) (by omega), Option.bind_some]
      refine key h F W ?_
      have : (fun w' => if w' < 0 then ro A R (p + 1) w' else rr A R p w') = ro A R p := by
        funext w'
        rw [if_neg (by omega), rr_ne e]
      rw [this]
      exact I
theorem M_fillsOut_L6 (hA : wa_ok A) {h0 : wb_H} (hM : MA h0 s l A) {R : Nat} (hR : R ≤ an A) (hrd : h0.1 21 0 50 = nN R) :
    ∀ m j, j + m = 768 → ∀ h, Fr SCR h0 h → oW h A → (∀ x, x < j → h.1 97 0 x = nN 0) → Ok (q_M_fillsOut_L6 sc h (nN j)) (fun h' => Fr SCR h0 h' ∧ fO h' A R) := by
  have h128 := nw_le hA
  intro m
  induction m with
  | zero =>
    intro j hj h F W I
    rw [q_M_fillsOut_L6_eq]
    simp (disch := omega) only [L_0, L_1, L_2, L_3, L_4, L_5, L_6, L_7, L_8, L_9, L_10, L_11, L_12, L_13, L_14, L_15, L_16, L_17, L_18, L_19, L_20, L_21, L_22, L_23, L_24, L_25, L_26, L_27, L_28, L_29, L_30, L_31, L_32, L_33, L_34, L_35, L_40, L_41, L_42, L_43, L_44, L_45, L_47, L_48, L_50, L_53, L_57, L_59, L_60, L_61, L_63, L_64, L_97, L_100, L_101, L_102, L_103, L_122, L_130, L_216, L_255, L_364, L_400, L_402, L_420, L_728, L_768, L_999, L_1000, L_1093, L_1872, L_2000, L_9999, L_12345, L_252645135, L_858993459, L_1103515245, L_1431655765, Lm_1, Lm_2, Lm_8, N_zero, N_cast, N_add, N_mul, N_sub, N_addM, N_lt_tp, N_lt_fp, N_le_tp, N_le_fp, N_eq_tp, N_eq_fp, MN_ltp, MN_lep, NM_ltp, NM_lep, NM_eqp, MN_eqp, MM_lt_tp, MM_lt_fp, MM_le_tp, MM_le_fp, MM_eq_tp, MM_eq_fp, N_cl, N_in_t, N_in_f, M_in, N_div, N_rem, N_nb0, N_nb1, cond_true, cond_false, Bool.not_true, Bool.not_false, Bool.and_true, Bool.true_and, Bool.and_false, Bool.false_and, decide_true, decide_false, Option.bind_some, Option.bind_none]
    refine M_fillsOut_L28 hA hM hR hrd (an A) 0 (Nat.zero_add _) h F W fun w hw q hq => ?_
    rw [I _ (by omega), dg_hi (p := 0) (ro_lt hA R 0 w) (by omega)]
  | succ m ih =>
    intro j hj h F W I
    rw [q_M_fillsOut_L6_eq]
    simp (disch := omega) only [L_0, L_1, L_2, L_3, L_4, L_5, L_6, L_7, L_8, L_9, L_10, L_11, L_12, L_13, L_14, L_15, L_16, L_17, L_18, L_19, L_20, L_21, L_22, L_23, L_24, L_25, L_26, L_27, L_28, L_29, L_30, L_31, L_32, L_33, L_34, L_35, L_40, L_41, L_42, L_43, L_44, L_45, L_47, L_48, L_50, L_53, L_57, L_59, L_60, L_61, L_63, L_64, L_97, L_100, L_101, L_102, L_103, L_122, L_130, L_216, L_255, L_364, L_400, L_402, L_420, L_728, L_768, L_999, L_1000, L_1093, L_1872, L_2000, L_9999, L_12345, L_252645135, L_858993459, L_1103515245, L_1431655765, Lm_1, Lm_2, Lm_8, N_zero, N_cast, N_add, N_mul, N_sub, N_addM, N_lt_tp, N_lt_fp, N_le_tp, N_le_fp, N_eq_tp, N_eq_fp, MN_ltp, MN_lep, NM_ltp, NM_lep, NM_eqp, MN_eqp, MM_lt_tp, MM_lt_fp, MM_le_tp, MM_le_fp, MM_eq_tp, MM_eq_fp, N_cl, N_in_t, N_in_f, M_in, N_div, N_rem, N_nb0, N_nb1, cond_true, cond_false, Bool.not_true, Bool.not_false, Bool.and_true, Bool.true_and, Bool.and_false, Bool.false_and, decide_true, decide_false, Option.bind_some, Option.bind_none]
    refine ih (j + 1) (by omega) _ (Fr_trans F (Fr_iu rfl)) (oW_fr (Fr_iu (L := [97]) rfl) rfl W) fun x hx => ?_
    by_cases e : x = j
    · rw [e, iu_at]
    · rw [iu_ne e]; exact I x (by omega)
theorem M_fillsOut (hA : wa_ok A) {h : wb_H} (hM : MA h s l A) {R : Nat} (hR : R ≤ an A) (hrd : h.1 21 0 50 = nN R) : Ok (q_M_fillsOut sc h) (fun h' => Fr SCR h h' ∧ fO h' A R) := by
  rw [q_M_fillsOut_eq]
  refine Ok_bind (M_fillsWeights hA hM) ?_
  rintro h1 ⟨F1, W⟩
  exact M_fillsOut_L6 hA hM hR hrd 768 0 rfl h1 (Fr_mono F1 rfl) W (fun x hx => by omega)
end
