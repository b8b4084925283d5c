/-! The class reckons its laws ahead. -/
def ldI (d : Nat) : Int32 := if d = 0 then nM 1 else nN (d - 1)
def vrs (sg b u e su i d : Nat) (j : Nat) : Int32 := if j = 0 then nN sg else if j = 1 then nN b else if j = 2 then nN u else if j = 3 then nN e else if j = 4 then nN su else if j = 5 then nN i else ldI d
def idx (i sg b u d : Nat) : Nat := i * 216 + ((b * 6 + u) * 2 + sg) * 3 + d
def FYi (q i : Nat) (x x' : wb_H) : Prop := ∀ t o k, ¬ (o = q ∧ (t = 44 ∨ t = 45 ∨ (t = 46 ∧ i * 216 ≤ k ∧ k < i * 216 + 216))) → x'.1 t o k = x.1 t o k ∧ x'.2.1 t o k = x.2.1 t o k ∧ x'.2.2 t o k = x.2.2 t o k
theorem FYi_refl (q i : Nat) (x : wb_H) : FYi q i x x := fun _ _ _ _ => ⟨rfl, rfl, rfl⟩
theorem FYi_trans {q i : Nat} {x x1 x2 : wb_H} (a : FYi q i x x1) (b : FYi q i x1 x2) : FYi q i x x2 := fun t o k n => ⟨(b t o k n).1.trans (a t o k n).1, (b t o k n).2.1.trans (a t o k n).2.1, (b t o k n).2.2.trans (a t o k n).2.2⟩
theorem FYi_iu {q i t k : Nat} {x : wb_H} {v : Int32} (h : t = 44 ∨ t = 45 ∨ (t = 46 ∧ i * 216 ≤ k ∧ k < i * 216 + 216)) : FYi q i x (wb_iu x t q k v) := fun t' o k' n => ⟨by
  rw [wb_iu_1, if_neg]
  rintro ⟨rfl, rfl, rfl⟩
  exact n ⟨rfl, h⟩, rfl, rfl⟩
theorem FYi_45 {q i : Nat} {x x' : wb_H} (a : F45 q x x') : FYi q i x x' := fun t o k n => a t o k (fun y => n ⟨y.2, Or.inr (Or.inl y.1)⟩)
theorem FYi_i {q i : Nat} {x x' : wb_H} (a : FYi q i x x') {t o k : Nat} (h4 : t ≠ 44) (h5 : t ≠ 45) (h6 : t ≠ 46) : x'.1 t o k = x.1 t o k := (a t o k (fun y => by rcases y.2 with e | e | e; exact h4 e; exact h5 e; exact h6 e.1)).1
section
variable {sc : wb_X} {q s : Nat}
/-- a term of a law, told from its first code on -/
theorem X_term {sz z y : Nat} {cs : CL} {var : Nat → Int32} {x m : wb_H} (hq : q < 2) (hsz : sz ≤ 402) (h13 : x.1 13 q 6 = nN sz) (h44 : ∀ i, i < 7 → x.1 44 q i = var i) (S : Sg q z y cs x m) (hz : z + cs.length ≤ sz) : (vC var cs = none → Ok (q_Laws_run_L4 sc x q (nN 0) (nN z)) (fun r => r.1 = nN 0 ∧ F45 q x r.2)) ∧ (∀ v, vC var cs = some v → ∃ x', F45 q x x' ∧ x'.1 45 q 0 = v ∧ q_Laws_run_L4 sc x q (nN 0) (nN z) = q_Laws_run_L4 sc x' q (nN 1) (nN (z + cs.length))) := by
  obtain ⟨s1, s2, s3, s4⟩ := S
  obtain ⟨i1, i2⟩ := X_seg (sc := sc) (var := var) hq hsz (lim := 20) (by decide) cs z [] x h13 h44 trivial s1 hz s3
  rcases vC_e (var := var) s3 s4 with ⟨e1, e2⟩ | ⟨v, e1, e2⟩
  · refine ⟨fun _ => i1 e1, fun v h => ?_⟩
    rw [e2] at h
    cases h
  · refine ⟨fun h => ?_, fun v' h => ?_⟩
    · rw [e2] at h
      cases h
    · rw [e2] at h
      cases h
      obtain ⟨x', F, S', e⟩ := i2 _ e1
      exact ⟨x', F, S'.1, e⟩
/-- the second one, above the first -/
theorem X_term2 {sz z y : Nat} {cs : CL} {var : Nat → Int32} {a : Int32} {x m : wb_H} (hq : q < 2) (hsz : sz ≤ 402) (h13 : x.1 13 q 6 = nN sz) (h44 : ∀ i, i < 7 → x.1 44 q i = var i) (h45 : x.1 45 q 0 = a) (S : Sg q z y cs x m) (hz : z + cs.length ≤ sz) : (vC var cs = none → Ok (q_Laws_run_L4 sc x q (nN 1) (nN z)) (fun r => r.1 = nN 0 ∧ F45 q x r.2)) ∧ (∀ v, vC var cs = some v → ∃ x', F45 q x x' ∧ x'.1 45 q 0 = a ∧ x'.1 45 q 1 = v ∧ q_Laws_run_L4 sc x q (nN 1) (nN z) = q_Laws_run_L4 sc x' q (nN 2) (nN (z + cs.length))) := by
  obtain ⟨s1, s2, s3, s4⟩ := S
  obtain ⟨i1, i2⟩ := X_seg (sc := sc) (var := var) hq hsz (lim := 21) (by decide) cs z [a] x h13 h44 ⟨h45, trivial⟩ s1 hz (wfd_up 1 s3)
  have ap := ev_app (var := var) [a] cs [] s3
  rw [List.nil_append] at ap
  rcases vC_e (var := var) s3 s4 with ⟨e1, e2⟩ | ⟨v, e1, e2⟩
  · refine ⟨fun _ => i1 (by rw [ap, e1]; rfl), fun v h => ?_⟩
    rw [e2] at h
    cases h
  · refine ⟨fun h => ?_, fun v' h => ?_⟩
    · rw [e2] at h
      cases h
    · rw [e2] at h
      cases h
      obtain ⟨x', F, S', e⟩ := i2 [v, a] (by rw [ap, e1]; rfl)
      exact ⟨x', F, S'.2.1, S'.1, e⟩
theorem X_stop {z sz : Nat} {x : wb_H} (hq : q < 2) (h13 : x.1 13 q 6 = nN sz) (hsz : sz ≤ 402) (hz : z < sz) (h41 : x.1 41 q z = nN 3) : q_Laws_run_L4 sc x q (nN 1) (nN z) = some (x.1 45 q 0, x) := by
  have g : decide (q < 2) = true := decide_eq_true hq
  rw [q_Laws_run_L4_eq]
  simp (disch := omega) only [L_0, L_1, L_2, L_3, L_4, L_5, L_6, L_7, L_8, L_9, L_10, L_11, L_12, L_13, L_14, L_15, L_16, L_17, L_18, L_19, L_20, L_21, L_22, L_23, L_24, L_25, L_26, L_27, L_28, L_29, L_30, L_31, L_32, L_33, L_34, L_35, L_40, L_41, L_42, L_43, L_44, L_45, L_47, L_48, L_50, L_53, L_57, L_59, L_60, L_61, L_63, L_64, L_97, L_100, L_101, L_102, L_103, L_122, L_130, L_216, L_255, L_364, L_400, L_402, L_420, L_728, L_768, L_999, L_1000, L_1093, L_1872, L_2000, L_9999, L_12345, L_252645135, L_858993459, L_1103515245, L_1431655765, Lm_1, Lm_2, Lm_8, N_zero, N_cast, N_add, N_mul, N_sub, N_addM, N_lt_tp, N_lt_fp, N_le_tp, N_le_fp, N_eq_tp, N_eq_fp, MN_ltp, MN_lep, NM_ltp, NM_lep, NM_eqp, MN_eqp, MM_lt_tp, MM_lt_fp, MM_le_tp, MM_le_fp, MM_eq_tp, MM_eq_fp, N_cl, N_in_t, N_in_f, M_in, N_div, N_rem, N_nb0, N_nb1, cond_true, cond_false, Bool.not_true, Bool.not_false, Bool.and_true, Bool.true_and, Bool.and_false, Bool.false_and, decide_true, decide_false, Option.bind_some, Option.bind_none, g, h13, h41]
  rw [q_Laws_run_L188_eq]
  simp (disch := omega) only [L_0, L_1, L_2, L_3, L_4, L_5, L_6, L_7, L_8, L_9, L_10, L_11, L_12, L_13, L_14, L_15, L_16, L_17, L_18, L_19, L_20, L_21, L_22, L_23, L_24, L_25, L_26, L_27, L_28, L_29, L_30, L_31, L_32, L_33, L_34, L_35, L_40, L_41, L_42, L_43, L_44, L_45, L_47, L_48, L_50, L_53, L_57, L_59, L_60, L_61, L_63, L_64, L_97, L_100, L_101, L_102, L_103, L_122, L_130, L_216, L_255, L_364, L_400, L_402, L_420, L_728, L_768, L_999, L_1000, L_1093, L_1872, L_2000, L_9999, L_12345, L_252645135, L_858993459, L_1103515245, L_1431655765, Lm_1, Lm_2, Lm_8, N_zero, N_cast, N_add, N_mul, N_sub, N_addM, N_lt_tp, N_lt_fp, N_le_tp, N_le_fp, N_eq_tp, N_eq_fp, MN_ltp, MN_lep, NM_ltp, NM_lep, NM_eqp, MN_eqp, MM_lt_tp, MM_lt_fp, MM_le_tp, MM_le_fp, MM_eq_tp, MM_eq_fp, N_cl, N_in_t, N_in_f, M_in, N_div, N_rem, N_nb0, N_nb1, cond_true, cond_false, Bool.not_true, Bool.not_false, Bool.and_true, Bool.true_and, Bool.and_false, Bool.false_and, decide_true, decide_false, Option.bind_some, Option.bind_none, g]
theorem X_skip {z z2 sz : Nat} {a b : Int32} {x : wb_H} (hq : q < 2) (h13 : x.1 13 q 6 = nN sz) (hsz : sz ≤ 402) (hz : z < sz) (h41 : x.1 41 q z = nN 2) (h42 : x.1 42 q z = nN (z2 + 1)) (hz2 : z < z2) (hz3 : z2 ≤ 402) (ha : x.1 45 q 0 = a) (hb : x.1 45 q 1 = b) : q_Laws_run_L4 sc x q (nN 2) (nN z) = if a < b then q_Laws_run_L4 sc x q (nN 0) (nN (z + 1)) else q_Laws_run_L4 sc x q (nN 0) (nN (z2 + 1)) := by
  have g : decide (q < 2) = true := decide_eq_true hq
  rw [q_Laws_run_L4_eq]
  simp (disch := omega) only [L_0, L_1, L_2, L_3, L_4, L_5, L_6, L_7, L_8, L_9, L_10, L_11, L_12, L_13, L_14, L_15, L_16, L_17, L_18, L_19, L_20, L_21, L_22, L_23, L_24, L_25, L_26, L_27, L_28, L_29, L_30, L_31, L_32, L_33, L_34, L_35, L_40, L_41, L_42, L_43, L_44, L_45, L_47, L_48, L_50, L_53, L_57, L_59, L_60, L_61, L_63, L_64, L_97, L_100, L_101, L_102, L_103, L_122, L_130, L_216, L_255, L_364, L_400, L_402, L_420, L_728, L_768, L_999, L_1000, L_1093, L_1872, L_2000, L_9999, L_12345, L_252645135, L_858993459, L_1103515245, L_1431655765, Lm_1, Lm_2, Lm_8, N_zero, N_cast, N_add, N_mul, N_sub, N_addM, N_lt_tp, N_lt_fp, N_le_tp, N_le_fp, N_eq_tp, N_eq_fp, MN_ltp, MN_lep, NM_ltp, NM_lep, NM_eqp, MN_eqp, MM_lt_tp, MM_lt_fp, MM_le_tp, MM_le_fp, MM_eq_tp, MM_eq_fp, N_cl, N_in_t, N_in_f, M_in, N_div, N_rem, N_nb0, N_nb1, cond_true, cond_false, Bool.not_true, Bool.not_false, Bool.and_true, Bool.true_and, Bool.and_false, Bool.false_and, decide_true, decide_false, Option.bind_some, Option.bind_none, g, h13, h41]
  rw [q_Laws_run_L91_eq]
  simp (disch := omega) only [L_0, L_1, L_2, L_3, L_4, L_5, L_6, L_7, L_8, L_9, L_10, L_11, L_12, L_13, L_14, L_15, L_16, L_17, L_18, L_19, L_20, L_21, L_22, L_23, L_24, L_25, L_26, L_27, L_28, L_29, L_30, L_31, L_32, L_33, L_34, L_35, L_40, L_41, L_42, L_43, L_44, L_45, L_47, L_48, L_50, L_53, L_57, L_59, L_60, L_61, L_63, L_64, L_97, L_100, L_101, L_102, L_103, L_122, L_130, L_216, L_255, L_364, L_400, L_402, L_420, L_728, L_768, L_999, L_1000, L_1093, L_1872, L_2000, L_9999, L_12345, L_252645135, L_858993459, L_1103515245, L_1431655765, Lm_1, Lm_2, Lm_8, N_zero, N_cast, N_add, N_mul, N_sub, N_addM, N_lt_tp, N_lt_fp, N_le_tp, N_le_fp, N_eq_tp, N_eq_fp, MN_ltp, MN_lep, NM_ltp, NM_lep, NM_eqp, MN_eqp, MM_lt_tp, MM_lt_fp, MM_le_tp, MM_le_fp, MM_eq_tp, MM_eq_fp, N_cl, N_in_t, N_in_f, M_in, N_div, N_rem, N_nb0, N_nb1, cond_true, cond_false, Bool.not_true, Bool.not_false, Bool.and_true, Bool.true_and, Bool.and_false, Bool.false_and, decide_true, decide_false, Option.bind_some, Option.bind_none, g, ha, hb]
  rw [q_Laws_run_L130_eq]
  simp (disch := omega) only [L_0, L_1, L_2, L_3, L_4, L_5, L_6, L_7, L_8, L_9, L_10, L_11, L_12, L_13, L_14, L_15, L_16, L_17, L_18, L_19, L_20, L_21, L_22, L_23, L_24, L_25, L_26, L_27, L_28, L_29, L_30, L_31, L_32, L_33, L_34, L_35, L_40, L_41, L_42, L_43, L_44, L_45, L_47, L_48, L_50, L_53, L_57, L_59, L_60, L_61, L_63, L_64, L_97, L_100, L_101, L_102, L_103, L_122, L_130, L_216, L_255, L_364, L_400, L_402, L_420, L_728, L_768, L_999, L_1000, L_1093, L_1872, L_2000, L_9999, L_12345, L_252645135, L_858993459, L_1103515245, L_1431655765, Lm_1, Lm_2, Lm_8, N_zero, N_cast, N_add, N_mul, N_sub, N_addM, N_lt_tp, N_lt_fp, N_le_tp, N_le_fp, N_eq_tp, N_eq_fp, MN_ltp, MN_lep, NM_ltp, NM_lep, NM_eqp, MN_eqp, MM_lt_tp, MM_lt_fp, MM_le_tp, MM_le_fp, MM_eq_tp, MM_eq_fp, N_cl, N_in_t, N_in_f, M_in, N_div, N_rem, N_nb0, N_nb1, cond_true, cond_false, Bool.not_true, Bool.not_false, Bool.and_true, Bool.true_and, Bool.and_false, Bool.false_and, decide_true, decide_false, Option.bind_some, Option.bind_none]
  rw [q_Laws_run_L159_eq]
  by_cases ab : a < b
  · rw [if_pos ab]
    simp (disch := omega) only [L_0, L_1, L_2, L_3, L_4, L_5, L_6, L_7, L_8, L_9, L_10, L_11, L_12, L_13, L_14, L_15, L_16, L_17, L_18, L_19, L_20, L_21, L_22, L_23, L_24, L_25, L_26, L_27, L_28, L_29, L_30, L_31, L_32, L_33, L_34, L_35, L_40, L_41, L_42, L_43, L_44, L_45, L_47, L_48, L_50, L_53, L_57, L_59, L_60, L_61, L_63, L_64, L_97, L_100, L_101, L_102, L_103, L_122, L_130, L_216, L_255, L_364, L_400, L_402, L_420, L_728, L_768, L_999, L_1000, L_1093, L_1872, L_2000, L_9999, L_12345, L_252645135, L_858993459, L_1103515245, L_1431655765, Lm_1, Lm_2, Lm_8, N_zero, N_cast, N_add, N_mul, N_sub, N_addM, N_lt_tp, N_lt_fp, N_le_tp, N_le_fp, N_eq_tp, N_eq_fp, MN_ltp, MN_lep, NM_ltp, NM_lep, NM_eqp, MN_eqp, MM_lt_tp, MM_lt_fp, MM_le_tp, MM_le_fp, MM_eq_tp, MM_eq_fp, N_cl, N_in_t, N_in_f, M_in, N_div, N_rem, N_nb0, N_nb1, cond_true, cond_false, Bool.not_true, Bool.not_false, Bool.and_true, Bool.true_and, Bool.and_false, Bool.false_and, decide_true, decide_false, Option.bind_some, Option.bind_none, eq_true ab]
    rw [q_Laws_run_L182_eq]
    simp (disch := omega) only [L_0, L_1, L_2, L_3, L_4, L_5, L_6, L_7, L_8, L_9, L_10, L_11, L_12, L_13, L_14, L_15, L_16, L_17, L_18, L_19, L_20, L_21, L_22, L_23, L_24, L_25, L_26, L_27, L_28, L_29, L_30, L_31, L_32, L_33, L_34, L_35, L_40, L_41, L_42, L_43, L_44, L_45, L_47, L_48, L_50, L_53, L_57, L_59, L_60, L_61, L_63, L_64, L_97, L_100, L_101, L_102, L_103, L_122, L_130, L_216, L_255, L_364, L_400, L_402, L_420, L_728, L_768, L_999, L_1000, L_1093, L_1872, L_2000, L_9999, L_12345, L_252645135, L_858993459, L_1103515245, L_1431655765, Lm_1, Lm_2, Lm_8, N_zero, N_cast, N_add, N_mul, N_sub, N_addM, N_lt_tp, N_lt_fp, N_le_tp, N_le_fp, N_eq_tp, N_eq_fp, MN_ltp, MN_lep, NM_ltp, NM_lep, NM_eqp, MN_eqp, MM_lt_tp, MM_lt_fp, MM_le_tp, MM_le_fp, MM_eq_tp, MM_eq_fp, N_cl, N_in_t, N_in_f, M_in, N_div, N_rem, N_nb0, N_nb1]
  · rw [if_neg ab]
    simp (disch := omega) only [L_0, L_1, L_2, L_3, L_4, L_5, L_6, L_7, L_8, L_9, L_10, L_11, L_12, L_13, L_14, L_15, L_16, L_17, L_18, L_19, L_20, L_21, L_22, L_23, L_24, L_25, L_26, L_27, L_28, L_29, L_30, L_31, L_32, L_33, L_34, L_35, L_40, L_41, L_42, L_43, L_44, L_45, L_47, L_48, L_50, L_53, L_57, L_59, L_60, L_61, L_63, L_64, L_97, L_100, L_101, L_102, L_103, L_122, L_130, L_216, L_255, L_364, L_400, L_402, L_420, L_728, L_768, L_999, L_1000, L_1093, L_1872, L_2000, L_9999, L_12345, L_252645135, L_858993459, L_1103515245, L_1431655765, Lm_1, Lm_2, Lm_8, N_zero, N_cast, N_add, N_mul, N_sub, N_addM, N_lt_tp, N_lt_fp, N_le_tp, N_le_fp, N_eq_tp, N_eq_fp, MN_ltp, MN_lep, NM_ltp, NM_lep, NM_eqp, MN_eqp, MM_lt_tp, MM_lt_fp, MM_le_tp, MM_le_fp, MM_eq_tp, MM_eq_fp, N_cl, N_in_t, N_in_f, M_in, N_div, N_rem, N_nb0, N_nb1, cond_true, cond_false, Bool.not_true, Bool.not_false, Bool.and_true, Bool.true_and, Bool.and_false, Bool.false_and, decide_true, decide_false, Option.bind_some, Option.bind_none, eq_false ab, g, h42, Nat.add_sub_cancel]
    rw [q_JMath_max_eq]
    simp (disch := omega) only [L_0, L_1, L_2, L_3, L_4, L_5, L_6, L_7, L_8, L_9, L_10, L_11, L_12, L_13, L_14, L_15, L_16, L_17, L_18, L_19, L_20, L_21, L_22, L_23, L_24, L_25, L_26, L_27, L_28, L_29, L_30, L_31, L_32, L_33, L_34, L_35, L_40, L_41, L_42, L_43, L_44, L_45, L_47, L_48, L_50, L_53, L_57, L_59, L_60, L_61, L_63, L_64, L_97, L_100, L_101, L_102, L_103, L_122, L_130, L_216, L_255, L_364, L_400, L_402, L_420, L_728, L_768, L_999, L_1000, L_1093, L_1872, L_2000, L_9999, L_12345, L_252645135, L_858993459, L_1103515245, L_1431655765, Lm_1, Lm_2, Lm_8, N_zero, N_cast, N_add, N_mul, N_sub, N_addM, N_lt_tp, N_lt_fp, N_le_tp, N_le_fp, N_eq_tp, N_eq_fp, MN_ltp, MN_lep, NM_ltp, NM_lep, NM_eqp, MN_eqp, MM_lt_tp, MM_lt_fp, MM_le_tp, MM_le_fp, MM_eq_tp, MM_eq_fp, N_cl, N_in_t, N_in_f, M_in, N_div, N_rem, N_nb0, N_nb1, cond_true, cond_false, Bool.not_true, Bool.not_false, Bool.and_true, Bool.true_and, Bool.and_false, Bool.false_and, decide_true, decide_false, Option.bind_some, Option.bind_none]
    rw [q_Laws_run_L182_eq]
    simp (disch := omega) only [L_0, L_1, L_2, L_3, L_4, L_5, L_6, L_7, L_8, L_9, L_10, L_11, L_12, L_13, L_14, L_15, L_16, L_17, L_18, L_19, L_20, L_21, L_22, L_23, L_24, L_25, L_26, L_27, L_28, L_29, L_30, L_31, L_32, L_33, L_34, L_35, L_40, L_41, L_42, L_43, L_44, L_45, L_47, L_48, L_50, L_53, L_57, L_59, L_60, L_61, L_63, L_64, L_97, L_100, L_101, L_102, L_103, L_122, L_130, L_216, L_255, L_364, L_400, L_402, L_420, L_728, L_768, L_999, L_1000, L_1093, L_1872, L_2000, L_9999, L_12345, L_252645135, L_858993459, L_1103515245, L_1431655765, Lm_1, Lm_2, Lm_8, N_zero, N_cast, N_add, N_mul, N_sub, N_addM, N_lt_tp, N_lt_fp, N_le_tp, N_le_fp, N_eq_tp, N_eq_fp, MN_ltp, MN_lep, NM_ltp, NM_lep, NM_eqp, MN_eqp, MM_lt_tp, MM_lt_fp, MM_le_tp, MM_le_fp, MM_eq_tp, MM_eq_fp, N_cl, N_in_t, N_in_f, M_in, N_div, N_rem, N_nb0, N_nb1]
theorem X_law {sz Y : Nat} {var : Nat → Int32} {t : CL} {m : wb_H} (hq : q < 2) (hsz : sz ≤ 402) : ∀ (brs : List (CL × (CL × CL))) (z b z' b' : Nat) (x : wb_H), x.1 13 q 6 = nN sz → (∀ i, i < 7 → x.1 44 q i = var i) → LawC q Y x m brs z b z' b' → Lst q Y x m z' b' t → z' + t.length + 1 ≤ sz → Ok (q_Laws_run_L4 sc x q (nN 0) (nN z)) (fun r => r.1 = lawV var brs t ∧ F45 q x r.2) := by
  have kp : ∀ (x x' : wb_H) e, F45 q x x' → Kp q e x x' := fun x x' e F j _ => ⟨F45_i F (by decide), F45_i F (by decide)⟩
  have tend : ∀ (z y : Nat) (t : CL) (x : wb_H), x.1 13 q 6 = nN sz → (∀ i, i < 7 → x.1 44 q i = var i) → Sg q z y t x m → z + t.length + 1 ≤ sz → x.1 41 q (z + t.length) = nN 3 → Ok (q_Laws_run_L4 sc x q (nN 0) (nN z)) (fun r => (r.1 = match vC var t with
      | some v => v
      | none => nN 0) ∧ F45 q x r.2) := by
    intro z y t x h13 h44 S hz h41
    obtain ⟨t1, t2⟩ := X_term (sc := sc) (var := var) hq hsz h13 h44 S (by omega)
    rcases vC_e (var := var) S.2.2.1 S.2.2.2 with ⟨-, e2⟩ | ⟨v, -, e2⟩
    · rw [e2]
      exact t1 e2
    · rw [e2]
      obtain ⟨x', F, s0, e⟩ := t2 v e2
      rw [e, X_stop hq ((F45_i F (by decide)).trans h13) hsz (by omega) ((F45_i F (by decide)).trans h41)]
      exact Ok_some ⟨s0, F⟩
  intro brs
  induction brs with
  | nil =>
    intro z b z' b' x h13 h44 LC LS hz
    obtain ⟨rfl, rfl⟩ := LC
    obtain ⟨y, S, h41, -⟩ := LS
    rw [lawV]
    exact tend z' y t x h13 h44 S hz h41
  | cons c brs ih =>
    intro z b z' b' x h13 h44 LC LS hz
    obtain ⟨zl, -⟩ := LawC_le1 LC.2
    obtain ⟨⟨y, S1, S2, S3, c41, c42, d41, -⟩, LC2⟩ := LC
    rw [lawV]
    obtain ⟨u1, u2⟩ := X_term (sc := sc) (var := var) hq hsz h13 h44 S1 (by omega)
    rcases vC_e (var := var) S1.2.2.1 S1.2.2.2 with ⟨-, eu⟩ | ⟨ua, -, eu⟩
    · refine Ok_w (u1 eu) ?_
      rintro r ⟨a, F⟩
      rw [eu]
      exact ⟨a, F⟩
    · obtain ⟨x1, F1, s0, e1⟩ := u2 ua eu
      rw [e1]
      have h131 : x1.1 13 q 6 = nN sz := (F45_i F1 (by decide)).trans h13
      have h441 : ∀ i, i < 7 → x1.1 44 q i = var i := fun i hi => (F45_i F1 (by decide)).trans (h44 i hi)
      have S2' := Sg_keep (kp x x1 _ F1) (Km_refl (y + c.1.length + c.2.1.length) m) (Nat.le_refl _) (Nat.le_refl _) S2
      obtain ⟨v1, v2⟩ := X_term2 (sc := sc) (var := var) hq hsz h131 h441 s0 S2' (by omega)
      rcases vC_e (var := var) S2.2.2.1 S2.2.2.2 with ⟨-, ev⟩ | ⟨vb, -, ev⟩
      · refine Ok_w (v1 ev) ?_
        rintro r ⟨a, F⟩
        rw [eu, ev]
        exact ⟨a, F45_trans F1 F⟩
      · obtain ⟨x2, F2, s1, s2, e2⟩ := v2 vb ev
        have F12 := F45_trans F1 F2
        have h132 : x2.1 13 q 6 = nN sz := (F45_i F2 (by decide)).trans h131
        have h442 : ∀ i, i < 7 → x2.1 44 q i = var i := fun i hi => (F45_i F2 (by decide)).trans (h441 i hi)
        rw [e2, X_skip (z2 := z + c.1.length + c.2.1.length + 1 + c.2.2.length) hq h132 hsz (by omega) ((F45_i F12 (by decide)).trans c41) ((F45_i F12 (by decide)).trans c42) (by omega) (by omega) s1 s2]
        by_cases ab : ua < vb
        · rw [if_pos ab]
          have S3' := Sg_keep (kp x x2 _ F12) (Km_refl (y + c.1.length + c.2.1.length + c.2.2.length) m) (Nat.le_refl _) (Nat.le_refl _) S3
          refine Ok_w (tend _ _ _ x2 h132 h442 S3' (by omega) ((F45_i F12 (by decide)).trans d41)) ?_
          rintro r ⟨a, F⟩
          rw [eu, ev]
          simp only [if_pos ab]
          exact ⟨a, F45_trans F12 F⟩
        · rw [if_neg ab]
          refine Ok_w (ih _ _ _ _ x2 h132 h442 (LawC_keep (e := z') (ye := Y) (be := b') (kp x x2 _ F12) (Km_refl _ _) (Kb_refl _ _) (Nat.le_refl _) (Nat.le_refl _) (Nat.le_refl _) LC2) (Lst_keep (e := z' + t.length + 1) (ye := Y) (be := b' + 1) (kp x x2 _ F12) (Km_refl _ _) (Kb_refl _ _) (Nat.le_refl _) (Nat.le_refl _) (Nat.lt_succ_self _) LS) hz) ?_
          rintro r ⟨a, F⟩
          rw [eu, ev]
          simp only [if_neg ab]
          exact ⟨a, F45_trans F12 F⟩
end
