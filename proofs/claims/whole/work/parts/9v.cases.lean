/-! All cases of all laws, told ahead. -/
theorem nar_0 : vp_nar .byte ((nN 0).toInt8.toInt32) = nN 0 := by decide
theorem nar_1 : vp_nar .byte ((nN 1).toInt8.toInt32) = nN 1 := by decide
theorem ld_case (K d : Nat) : (nN K + ldI d) + nN 1 = nN (K + d) := by
  unfold ldI nN nM
  by_cases z : d = 0
  · rw [if_pos z, iz_add, iz_add]
    congr 1
    omega
  · rw [if_neg z, iz_add, iz_add]
    congr 1
    omega
theorem ld_succ (d : Nat) : ldI d + nN 1 = ldI (d + 1) := by
  unfold ldI nN nM
  by_cases z : d = 0
  · subst z
    rw [if_pos rfl, if_neg (by decide), iz_add]
    rfl
  · rw [if_neg z, if_neg (by omega), iz_add]
    congr 1
    omega
theorem ld_lt : ∀ d, d ≤ 3 → (nN 1 < ldI d ↔ d = 3) := by
  intro d hd
  rcases (show d = 0 ∨ d = 1 ∨ d = 2 ∨ d = 3 by omega) with e | e | e | e <;> subst e <;> decide
theorem vrs_all {x : wb_H} {q sg b u e su i d : Nat} (h0 : x.1 44 q 0 = nN sg) (h1 : x.1 44 q 1 = nN b) (h2 : x.1 44 q 2 = nN u) (h3 : x.1 44 q 3 = nN e) (h4 : x.1 44 q 4 = nN su) (h5 : x.1 44 q 5 = nN i) (h6 : x.1 44 q 6 = ldI d) : ∀ j, j < 7 → x.1 44 q j = vrs sg b u e su i d j := by
  intro j hj
  rcases (show j = 0 ∨ j = 1 ∨ j = 2 ∨ j = 3 ∨ j = 4 ∨ j = 5 ∨ j = 6 by omega) with r | r | r | r | r | r | r <;> subst r
  · exact h0
  · exact h1
  · exact h2
  · exact h3
  · exact h4
  · exact h5
  · exact h6
section
variable {sc : wb_X} {q s : Nat}
theorem X_sign1 {sz Y z0 b0 zf bf i sg b u e su d : Nat} {brs : List (CL × (CL × CL))} {t : CL} {x m : wb_H} (hq : q < 2) (hi : i < 6) (hsz : sz ≤ 402) (h13 : x.1 13 q 6 = nN sz) (h43 : x.1 43 q i = nN z0) (LC : LawC q Y x m brs z0 b0 zf bf) (LS : Lst q Y x m zf bf t) (hz : zf + t.length + 1 ≤ sz) (hsg : sg ≤ 1) (hb : b ≤ 5) (hu : u ≤ 5) (hd : d ≤ 2) (h1 : x.1 44 q 1 = nN b) (h2 : x.1 44 q 2 = nN u) (h3 : x.1 44 q 3 = nN e) (h4 : x.1 44 q 4 = nN su) (h5 : x.1 44 q 5 = nN i) (h6 : x.1 44 q 6 = ldI d) : ∃ x', q_Laws_reckonSigns_L26 sc x q (nN i) (nN b) (nN u) (ldI d) (nN sg) = q_Laws_reckonSigns_L26 sc x' q (nN i) (nN b) (nN u) (ldI d) (nN (sg + 1)) ∧ FYi q i x x' ∧ (∀ j, j ≠ 0 → x'.1 44 q j = x.1 44 q j) ∧ x'.1 46 q (idx i sg b u d) = nN (gt0 (lawV (vrs sg b u e su i d) brs t)) ∧ (∀ k, k ≠ idx i sg b u d → x'.1 46 q k = x.1 46 q k) := by
  have g : decide (q < 2) = true := decide_eq_true hq
  rw [q_Laws_reckonSigns_L26_eq]
  simp (disch := omega) only [L_0, L_1, L_2, L_3, L_4, L_5, L_6, L_7, L_8, L_9, L_10, L_11, L_12, L_13, L_14, L_15, L_16, L_17, L_18, L_19, L_20, L_21, L_22, L_23, L_24, L_25, L_26, L_27, L_28, L_29, L_30, L_31, L_32, L_33, L_34, L_35, L_40, L_41, L_42, L_43, L_44, L_45, L_47, L_48, L_50, L_53, L_57, L_59, L_60, L_61, L_63, L_64, L_97, L_100, L_101, L_102, L_103, L_122, L_130, L_216, L_255, L_364, L_400, L_402, L_420, L_728, L_768, L_999, L_1000, L_1093, L_1872, L_2000, L_9999, L_12345, L_252645135, L_858993459, L_1103515245, L_1431655765, Lm_1, Lm_2, Lm_8, N_zero, N_cast, N_add, N_mul, N_sub, N_addM, N_lt_tp, N_lt_fp, N_le_tp, N_le_fp, N_eq_tp, N_eq_fp, MN_ltp, MN_lep, NM_ltp, NM_lep, NM_eqp, MN_eqp, MM_lt_tp, MM_lt_fp, MM_le_tp, MM_le_fp, MM_eq_tp, MM_eq_fp, N_cl, N_in_t, N_in_f, M_in, N_div, N_rem, N_nb0, N_nb1, cond_true, cond_false, Bool.not_true, Bool.not_false, Bool.and_true, Bool.true_and, Bool.and_false, Bool.false_and, decide_true, decide_false, Option.bind_some, Option.bind_none, g, iu_nt (show 43 ≠ 44 by decide), h43]
  have F1 : FYi q i x (wb_iu x 44 q 0 (nN sg)) := FYi_iu (Or.inl rfl)
  have k1 : Kp q (zf + t.length + 1) x (wb_iu x 44 q 0 (nN sg)) := fun j _ => ⟨iu_nt (by decide), iu_nt (by decide)⟩
  have c0 : (wb_iu x 44 q 0 (nN sg)).1 44 q 0 = nN sg := iu_at
  have cj : ∀ j, j ≠ 0 → (wb_iu x 44 q 0 (nN sg)).1 44 q j = x.1 44 q j := fun j hj => iu_ne hj
  have d13 : (wb_iu x 44 q 0 (nN sg)).1 13 q 6 = nN sz := by rw [iu_nt (by decide)]; exact h13
  have c46 : ∀ k, (wb_iu x 44 q 0 (nN sg)).1 46 q k = x.1 46 q k := fun k => iu_nt (by decide)
  generalize wb_iu x 44 q 0 (nN sg) = x1 at *
  have v1 := vrs_all c0 ((cj 1 (by decide)).trans h1) ((cj 2 (by decide)).trans h2) ((cj 3 (by decide)).trans h3) ((cj 4 (by decide)).trans h4) ((cj 5 (by decide)).trans h5) ((cj 6 (by decide)).trans h6)
  obtain ⟨⟨rv, x2⟩, er, e1, F2⟩ := X_law (sc := sc) hq hsz brs z0 b0 zf bf x1 d13 v1 (LawC_keep (e := zf + t.length + 1) k1 (Km_refl Y m) (Kb_refl bf m) (Nat.le_refl _) (by omega) (Nat.le_refl _) LC) (Lst_keep (be := bf + 1) k1 (Km_refl Y m) (Kb_refl _ m) (Nat.le_refl _) (Nat.le_refl _) (Nat.lt_succ_self _) LS) hz
  simp only at e1 F2
  rw [q_Laws_run_eq]
  simp only [L_0, L_1, L_2, L_3, L_4, L_5, L_6, L_7, L_8, L_9, L_10, L_11, L_12, L_13, L_14, L_15, L_16, L_17, L_18, L_19, L_20, L_21, L_22, L_23, L_24, L_25, L_26, L_27, L_28, L_29, L_30, L_31, L_32, L_33, L_34, L_35, L_40, L_41, L_42, L_43, L_44, L_45, L_47, L_48, L_50, L_53, L_57, L_59, L_60, L_61, L_63, L_64, L_97, L_100, L_101, L_102, L_103, L_122, L_130, L_216, L_255, L_364, L_400, L_402, L_420, L_728, L_768, L_999, L_1000, L_1093, L_1872, L_2000, L_9999, L_12345, L_252645135, L_858993459, L_1103515245, L_1431655765, Lm_1, Lm_2, Lm_8]
  rw [er]
  have ci : ∀ h : wb_H, q_Laws_caseOf sc h (nN i) (nN sg) (nN b) (nN u) (ldI d) = some (nN (idx i sg b u d), h) := by
    intro h
    rw [q_Laws_caseOf_eq]
    simp (disch := omega) only [L_0, L_1, L_2, L_3, L_4, L_5, L_6, L_7, L_8, L_9, L_10, L_11, L_12, L_13, L_14, L_15, L_16, L_17, L_18, L_19, L_20, L_21, L_22, L_23, L_24, L_25, L_26, L_27, L_28, L_29, L_30, L_31, L_32, L_33, L_34, L_35, L_40, L_41, L_42, L_43, L_44, L_45, L_47, L_48, L_50, L_53, L_57, L_59, L_60, L_61, L_63, L_64, L_97, L_100, L_101, L_102, L_103, L_122, L_130, L_216, L_255, L_364, L_400, L_402, L_420, L_728, L_768, L_999, L_1000, L_1093, L_1872, L_2000, L_9999, L_12345, L_252645135, L_858993459, L_1103515245, L_1431655765, Lm_1, Lm_2, Lm_8, N_mul, N_add, ld_case]
    rfl
  have il : idx i sg b u d < 1296 := by unfold idx; omega
  have F12 : FYi q i x x2 := FYi_trans F1 (FYi_45 F2)
  have f44 : ∀ j, j ≠ 0 → x2.1 44 q j = x.1 44 q j := fun j hj => (F45_i F2 (by decide)).trans (cj j hj)
  have f46 : ∀ k, x2.1 46 q k = x.1 46 q k := fun k => (F45_i F2 (by decide)).trans (c46 k)
  have i1 : i * 216 ≤ idx i sg b u d := by unfold idx; omega
  have i2 : idx i sg b u d < i * 216 + 216 := by unfold idx; omega
  subst e1
  unfold gt0
  by_cases pos : nN 0 < lawV (vrs sg b u e su i d) brs t
  · have np : ¬ (lawV (vrs sg b u e su i d) brs t ≤ nN 0) := Int32.not_le.mpr pos
    rw [if_pos pos]
    simp (disch := omega) only [L_0, L_1, L_2, L_3, L_4, L_5, L_6, L_7, L_8, L_9, L_10, L_11, L_12, L_13, L_14, L_15, L_16, L_17, L_18, L_19, L_20, L_21, L_22, L_23, L_24, L_25, L_26, L_27, L_28, L_29, L_30, L_31, L_32, L_33, L_34, L_35, L_40, L_41, L_42, L_43, L_44, L_45, L_47, L_48, L_50, L_53, L_57, L_59, L_60, L_61, L_63, L_64, L_97, L_100, L_101, L_102, L_103, L_122, L_130, L_216, L_255, L_364, L_400, L_402, L_420, L_728, L_768, L_999, L_1000, L_1093, L_1872, L_2000, L_9999, L_12345, L_252645135, L_858993459, L_1103515245, L_1431655765, Lm_1, Lm_2, Lm_8, N_zero, N_cast, N_add, N_mul, N_sub, N_addM, N_lt_tp, N_lt_fp, N_le_tp, N_le_fp, N_eq_tp, N_eq_fp, MN_ltp, MN_lep, NM_ltp, NM_lep, NM_eqp, MN_eqp, MM_lt_tp, MM_lt_fp, MM_le_tp, MM_le_fp, MM_eq_tp, MM_eq_fp, N_cl, N_in_t, N_in_f, M_in, N_div, N_rem, N_nb0, N_nb1, cond_true, cond_false, Bool.not_true, Bool.not_false, Bool.and_true, Bool.true_and, Bool.and_false, Bool.false_and, decide_true, decide_false, Option.bind_some, Option.bind_none, eq_false np, ci, g, nar_1]
    refine ⟨_, rfl, FYi_trans F12 (FYi_iu (Or.inr (Or.inr ⟨rfl, i1, i2⟩))), fun j hj => by rw [iu_nt (by decide)]; exact f44 j hj, iu_at, fun k hk => by rw [iu_ne hk]; exact f46 k⟩
  · have np : lawV (vrs sg b u e su i d) brs t ≤ nN 0 := Int32.not_lt.mp pos
    rw [if_neg pos]
    simp (disch := omega) only [L_0, L_1, L_2, L_3, L_4, L_5, L_6, L_7, L_8, L_9, L_10, L_11, L_12, L_13, L_14, L_15, L_16, L_17, L_18, L_19, L_20, L_21, L_22, L_23, L_24, L_25, L_26, L_27, L_28, L_29, L_30, L_31, L_32, L_33, L_34, L_35, L_40, L_41, L_42, L_43, L_44, L_45, L_47, L_48, L_50, L_53, L_57, L_59, L_60, L_61, L_63, L_64, L_97, L_100, L_101, L_102, L_103, L_122, L_130, L_216, L_255, L_364, L_400, L_402, L_420, L_728, L_768, L_999, L_1000, L_1093, L_1872, L_2000, L_9999, L_12345, L_252645135, L_858993459, L_1103515245, L_1431655765, Lm_1, Lm_2, Lm_8, N_zero, N_cast, N_add, N_mul, N_sub, N_addM, N_lt_tp, N_lt_fp, N_le_tp, N_le_fp, N_eq_tp, N_eq_fp, MN_ltp, MN_lep, NM_ltp, NM_lep, NM_eqp, MN_eqp, MM_lt_tp, MM_lt_fp, MM_le_tp, MM_le_fp, MM_eq_tp, MM_eq_fp, N_cl, N_in_t, N_in_f, M_in, N_div, N_rem, N_nb0, N_nb1, cond_true, cond_false, Bool.not_true, Bool.not_false, Bool.and_true, Bool.true_and, Bool.and_false, Bool.false_and, decide_true, decide_false, Option.bind_some, Option.bind_none, eq_true np, ci, g, nar_0]
    refine ⟨_, rfl, FYi_trans F12 (FYi_iu (Or.inr (Or.inr ⟨rfl, i1, i2⟩))), fun j hj => by rw [iu_nt (by decide)]; exact f44 j hj, iu_at, fun k hk => by rw [iu_ne hk]; exact f46 k⟩
theorem X_signs {sz Y z0 b0 zf bf i b u e su d : Nat} {brs : List (CL × (CL × CL))} {t : CL} {x m : wb_H} (hq : q < 2) (hi : i < 6) (hsz : sz ≤ 402) (h13 : x.1 13 q 6 = nN sz) (h43 : x.1 43 q i = nN z0) (LC : LawC q Y x m brs z0 b0 zf bf) (LS : Lst q Y x m zf bf t) (hz : zf + t.length + 1 ≤ sz) (hb : b ≤ 5) (hu : u ≤ 5) (hd : d ≤ 2) (h3 : x.1 44 q 3 = nN e) (h4 : x.1 44 q 4 = nN su) (h5 : x.1 44 q 5 = nN i) : Ok (q_Laws_reckonSigns sc x q (nN i) (nN b) (nN u) (ldI d)) (fun x' => FYi q i x x' ∧ (x'.1 44 q 3 = nN e ∧ x'.1 44 q 4 = nN su ∧ x'.1 44 q 5 = nN i) ∧ (∀ sg, sg ≤ 1 → x'.1 46 q (idx i sg b u d) = nN (gt0 (lawV (vrs sg b u e su i d) brs t))) ∧ (∀ k, k ≠ idx i 0 b u d → k ≠ idx i 1 b u d → x'.1 46 q k = x.1 46 q k)) := by
  have g : decide (q < 2) = true := decide_eq_true hq
  have kk : ∀ (x x' : wb_H), FYi q i x x' → Kp q (zf + t.length + 1) x x' := fun x x' F j _ => ⟨FYi_i F (by decide) (by decide) (by decide), FYi_i F (by decide) (by decide) (by decide)⟩
  have lc : ∀ x', FYi q i x x' → LawC q Y x' m brs z0 b0 zf bf ∧ Lst q Y x' m zf bf t := fun x' F => ⟨LawC_keep (kk x x' F) (Km_refl Y m) (Kb_refl bf m) (Nat.le_refl _) (by omega) (Nat.le_refl _) LC, Lst_keep (be := bf + 1) (kk x x' F) (Km_refl Y m) (Kb_refl _ m) (Nat.le_refl _) (Nat.le_refl _) (Nat.lt_succ_self _) LS⟩
  rw [q_Laws_reckonSigns_eq]
  simp (disch := omega) only [L_0, L_1, L_2, L_3, L_4, L_5, L_6, L_7, L_8, L_9, L_10, L_11, L_12, L_13, L_14, L_15, L_16, L_17, L_18, L_19, L_20, L_21, L_22, L_23, L_24, L_25, L_26, L_27, L_28, L_29, L_30, L_31, L_32, L_33, L_34, L_35, L_40, L_41, L_42, L_43, L_44, L_45, L_47, L_48, L_50, L_53, L_57, L_59, L_60, L_61, L_63, L_64, L_97, L_100, L_101, L_102, L_103, L_122, L_130, L_216, L_255, L_364, L_400, L_402, L_420, L_728, L_768, L_999, L_1000, L_1093, L_1872, L_2000, L_9999, L_12345, L_252645135, L_858993459, L_1103515245, L_1431655765, Lm_1, Lm_2, Lm_8, N_zero, N_cast, N_add, N_mul, N_sub, N_addM, N_lt_tp, N_lt_fp, N_le_tp, N_le_fp, N_eq_tp, N_eq_fp, MN_ltp, MN_lep, NM_ltp, NM_lep, NM_eqp, MN_eqp, MM_lt_tp, MM_lt_fp, MM_le_tp, MM_le_fp, MM_eq_tp, MM_eq_fp, N_cl, N_in_t, N_in_f, M_in, N_div, N_rem, N_nb0, N_nb1, cond_true, cond_false, Bool.not_true, Bool.not_false, Bool.and_true, Bool.true_and, Bool.and_false, Bool.false_and, decide_true, decide_false, Option.bind_some, Option.bind_none, g]
  have F1 : FYi q i x (wb_iu (wb_iu (wb_iu x 44 q 1 (nN b)) 44 q 2 (nN u)) 44 q 6 (ldI d)) := FYi_trans (FYi_trans (FYi_iu (Or.inl rfl)) (FYi_iu (Or.inl rfl))) (FYi_iu (Or.inl rfl))
  have c1 : (wb_iu (wb_iu (wb_iu x 44 q 1 (nN b)) 44 q 2 (nN u)) 44 q 6 (ldI d)).1 44 q 1 = nN b := by rw [iu_ne (by decide), iu_ne (by decide), iu_at]
  have c2 : (wb_iu (wb_iu (wb_iu x 44 q 1 (nN b)) 44 q 2 (nN u)) 44 q 6 (ldI d)).1 44 q 2 = nN u := by rw [iu_ne (by decide), iu_at]
  have c6 : (wb_iu (wb_iu (wb_iu x 44 q 1 (nN b)) 44 q 2 (nN u)) 44 q 6 (ldI d)).1 44 q 6 = ldI d := iu_at
  have c3 : (wb_iu (wb_iu (wb_iu x 44 q 1 (nN b)) 44 q 2 (nN u)) 44 q 6 (ldI d)).1 44 q 3 = nN e := by rw [iu_ne (by decide), iu_ne (by decide), iu_ne (by decide)]; exact h3
  have c4 : (wb_iu (wb_iu (wb_iu x 44 q 1 (nN b)) 44 q 2 (nN u)) 44 q 6 (ldI d)).1 44 q 4 = nN su := by rw [iu_ne (by decide), iu_ne (by decide), iu_ne (by decide)]; exact h4
  have c5 : (wb_iu (wb_iu (wb_iu x 44 q 1 (nN b)) 44 q 2 (nN u)) 44 q 6 (ldI d)).1 44 q 5 = nN i := by rw [iu_ne (by decide), iu_ne (by decide), iu_ne (by decide)]; exact h5
  have c46 : ∀ k, (wb_iu (wb_iu (wb_iu x 44 q 1 (nN b)) 44 q 2 (nN u)) 44 q 6 (ldI d)).1 46 q k = x.1 46 q k := fun k => by rw [iu_nt (by decide), iu_nt (by decide), iu_nt (by decide)]
  generalize wb_iu (wb_iu (wb_iu x 44 q 1 (nN b)) 44 q 2 (nN u)) 44 q 6 (ldI d) = x1 at *
  obtain ⟨x2, e2, F2, n2, v2, o2⟩ := X_sign1 (sc := sc) (sg := 0) hq hi hsz ((FYi_i F1 (by decide) (by decide) (by decide)).trans h13) ((FYi_i F1 (by decide) (by decide) (by decide)).trans h43) (lc x1 F1).1 (lc x1 F1).2 hz (by decide) hb hu hd c1 c2 c3 c4 c5 c6
  have F12 := FYi_trans F1 F2
  obtain ⟨x3, e3, F3, n3, v3, o3⟩ := X_sign1 (sc := sc) (sg := 1) hq hi hsz ((FYi_i F12 (by decide) (by decide) (by decide)).trans h13) ((FYi_i F12 (by decide) (by decide) (by decide)).trans h43) (lc x2 F12).1 (lc x2 F12).2 hz (by decide) hb hu hd ((n2 1 (by decide)).trans c1) ((n2 2 (by decide)).trans c2) ((n2 3 (by decide)).trans c3) ((n2 4 (by decide)).trans c4) ((n2 5 (by decide)).trans c5) ((n2 6 (by decide)).trans c6)
  rw [e2, e3, q_Laws_reckonSigns_L26_eq]
  simp (disch := omega) only [L_0, L_1, L_2, L_3, L_4, L_5, L_6, L_7, L_8, L_9, L_10, L_11, L_12, L_13, L_14, L_15, L_16, L_17, L_18, L_19, L_20, L_21, L_22, L_23, L_24, L_25, L_26, L_27, L_28, L_29, L_30, L_31, L_32, L_33, L_34, L_35, L_40, L_41, L_42, L_43, L_44, L_45, L_47, L_48, L_50, L_53, L_57, L_59, L_60, L_61, L_63, L_64, L_97, L_100, L_101, L_102, L_103, L_122, L_130, L_216, L_255, L_364, L_400, L_402, L_420, L_728, L_768, L_999, L_1000, L_1093, L_1872, L_2000, L_9999, L_12345, L_252645135, L_858993459, L_1103515245, L_1431655765, Lm_1, Lm_2, Lm_8, N_zero, N_cast, N_add, N_mul, N_sub, N_addM, N_lt_tp, N_lt_fp, N_le_tp, N_le_fp, N_eq_tp, N_eq_fp, MN_ltp, MN_lep, NM_ltp, NM_lep, NM_eqp, MN_eqp, MM_lt_tp, MM_lt_fp, MM_le_tp, MM_le_fp, MM_eq_tp, MM_eq_fp, N_cl, N_in_t, N_in_f, M_in, N_div, N_rem, N_nb0, N_nb1, cond_true, cond_false, Bool.not_true, Bool.not_false, Bool.and_true, Bool.true_and, Bool.and_false, Bool.false_and, decide_true, decide_false, Option.bind_some, Option.bind_none]
  have ne : idx i 0 b u d ≠ idx i 1 b u d := by unfold idx; omega
  refine Ok_some ⟨FYi_trans F12 F3, ⟨(n3 3 (by decide)).trans ((n2 3 (by decide)).trans c3), (n3 4 (by decide)).trans ((n2 4 (by decide)).trans c4), (n3 5 (by decide)).trans ((n2 5 (by decide)).trans c5)⟩, fun sg hsg => ?_, fun k h0 h1 => (o3 k h1).trans ((o2 k h0).trans (c46 k))⟩
  rcases (show sg = 0 ∨ sg = 1 by omega) with r | r <;> subst r
  · exact (o3 _ ne).trans v2
  · exact v3
def bef (b' u' d' b u d : Nat) : Prop := b' < b ∨ (b' = b ∧ (u' < u ∨ (u' = u ∧ d' < d)))
/-- all cases of one law -/
theorem X_cases {sz Y z0 b0 zf bf i e su : Nat} {brs : List (CL × (CL × CL))} {t : CL} {x0 m : wb_H} (hq : q < 2) (hi : i < 6) (hsz : sz ≤ 402) (h13 : x0.1 13 q 6 = nN sz) (h43 : x0.1 43 q i = nN z0) (LC : LawC q Y x0 m brs z0 b0 zf bf) (LS : Lst q Y x0 m zf bf t) (hz : zf + t.length + 1 ≤ sz) (h49 : x0.1 49 q i = nN su) (h50 : x0.1 50 q i = nN e) (he : e ≤ 6) (hsu : su ≤ 10) : Ok (q_Laws_reckonCases sc x0 q q (nN i)) (fun x' => FYi q i x0 x' ∧ ∀ sg b u d, sg ≤ 1 → b + u ≤ 5 → b + u ≤ e → d ≤ 2 → x'.1 46 q (idx i sg b u d) = nN (gt0 (lawV (vrs sg b u e su i d) brs t))) := by
  have g : decide (q < 2) = true := decide_eq_true hq
  have kk : ∀ (x x' : wb_H), FYi q i x x' → Kp q (zf + t.length + 1) x x' := fun x x' F j _ => ⟨FYi_i F (by decide) (by decide) (by decide), FYi_i F (by decide) (by decide) (by decide)⟩
  have lc : ∀ x', FYi q i x0 x' → LawC q Y x' m brs z0 b0 zf bf ∧ Lst q Y x' m zf bf t := fun x' F => ⟨LawC_keep (kk x0 x' F) (Km_refl Y m) (Kb_refl bf m) (Nat.le_refl _) (by omega) (Nat.le_refl _) LC, Lst_keep (be := bf + 1) (kk x0 x' F) (Km_refl Y m) (Kb_refl _ m) (Nat.le_refl _) (Nat.le_refl _) (Nat.lt_succ_self _) LS⟩
  have mm : min 5 e ≤ 5 := Nat.min_le_left _ _
  generalize em : min 5 e = mo at *
  -- what holds while it goes
  have step : ∀ (x : wb_H) (b u d : Nat), b + u ≤ mo → d ≤ 2 → FYi q i x0 x → (x.1 44 q 3 = nN e ∧ x.1 44 q 4 = nN su ∧ x.1 44 q 5 = nN i) → (∀ sg b' u' d', sg ≤ 1 → b' + u' ≤ mo → d' ≤ 2 → bef b' u' d' b u d → x.1 46 q (idx i sg b' u' d') = nN (gt0 (lawV (vrs sg b' u' e su i d') brs t))) → ∃ x', q_Laws_reckonCases_L66 sc x q (nN i) (nN mo) (nN b) (nN u) (ldI d) = q_Laws_reckonCases_L66 sc x' q (nN i) (nN mo) (nN b) (nN u) (ldI (d + 1)) ∧ FYi q i x0 x' ∧ (x'.1 44 q 3 = nN e ∧ x'.1 44 q 4 = nN su ∧ x'.1 44 q 5 = nN i) ∧ (∀ sg b' u' d', sg ≤ 1 → b' + u' ≤ mo → d' ≤ 2 → bef b' u' d' b u (d + 1) → x'.1 46 q (idx i sg b' u' d') = nN (gt0 (lawV (vrs sg b' u' e su i d') brs t))) := by
    intro x b u d hbu hd F c R
    obtain ⟨x', ex, F', c', v', o'⟩ := X_signs (sc := sc) (b := b) (u := u) (d := d) hq hi hsz ((FYi_i F (by decide) (by decide) (by decide)).trans h13) ((FYi_i F (by decide) (by decide) (by decide)).trans h43) (lc x F).1 (lc x F).2 hz (by omega) (by omega) hd c.1 c.2.1 c.2.2
    refine ⟨x', ?_, FYi_trans F F', c', fun sg b' u' d' hsg h1 h2 hbef => ?_⟩
    · have nl : ¬ (nN 1 < ldI d) := fun y => by
        have := (ld_lt d (by omega)).mp y
        omega
      rw [q_Laws_reckonCases_L66_eq]
      simp only [L_0, L_1, L_2, L_3, L_4, L_5, L_6, L_7, L_8, L_9, L_10, L_11, L_12, L_13, L_14, L_15, L_16, L_17, L_18, L_19, L_20, L_21, L_22, L_23, L_24, L_25, L_26, L_27, L_28, L_29, L_30, L_31, L_32, L_33, L_34, L_35, L_40, L_41, L_42, L_43, L_44, L_45, L_47, L_48, L_50, L_53, L_57, L_59, L_60, L_61, L_63, L_64, L_97, L_100, L_101, L_102, L_103, L_122, L_130, L_216, L_255, L_364, L_400, L_402, L_420, L_728, L_768, L_999, L_1000, L_1093, L_1872, L_2000, L_9999, L_12345, L_252645135, L_858993459, L_1103515245, L_1431655765, Lm_1, Lm_2, Lm_8, eq_false nl, g, cond_true, cond_false, Bool.not_true, Bool.not_false, Bool.and_true, Bool.true_and, Bool.and_false, Bool.false_and, decide_true, decide_false, Option.bind_some, Option.bind_none, ex, ld_succ]
    · by_cases same : b' = b ∧ u' = u ∧ d' = d
      · obtain ⟨rfl, rfl, rfl⟩ := same
        exact v' sg hsg
      · have hb2 : bef b' u' d' b u d := by unfold bef at hbef ⊢; omega
        have n0 : idx i sg b' u' d' ≠ idx i 0 b u d := by unfold idx; omega
        have n1 : idx i sg b' u' d' ≠ idx i 1 b u d := by unfold idx; omega
        rw [o' _ n0 n1]
        exact R sg b' u' d' hsg h1 h2 hb2
  have blue : ∀ k b u (x : wb_H), b ≤ mo → mo + 1 ≤ b + u + k → FYi q i x0 x → (x.1 44 q 3 = nN e ∧ x.1 44 q 4 = nN su ∧ x.1 44 q 5 = nN i) → b + u ≤ mo + 1 → (∀ sg b' u' d', sg ≤ 1 → b' + u' ≤ mo → d' ≤ 2 → bef b' u' d' b u 0 → x.1 46 q (idx i sg b' u' d') = nN (gt0 (lawV (vrs sg b' u' e su i d') brs t))) → ∃ x', q_Laws_reckonCases_L54 sc x q (nN i) (nN mo) (nN b) (nN u) = q_Laws_reckonCases_L45 sc x' q (nN i) (nN mo) (nN (b + 1)) ∧ FYi q i x0 x' ∧ (x'.1 44 q 3 = nN e ∧ x'.1 44 q 4 = nN su ∧ x'.1 44 q 5 = nN i) ∧ (∀ sg b' u' d', sg ≤ 1 → b' + u' ≤ mo → d' ≤ 2 → bef b' u' d' (b + 1) 0 0 → x'.1 46 q (idx i sg b' u' d') = nN (gt0 (lawV (vrs sg b' u' e su i d') brs t))) := by
    intro k
    induction k with
    | zero =>
      intro b u x hb hk F c hbu R
      refine ⟨x, ?_, F, c, fun sg b' u' d' h1 h2 h3 hbef => R sg b' u' d' h1 h2 h3 (by unfold bef at hbef ⊢; omega)⟩
      rw [q_Laws_reckonCases_L54_eq]
      simp (disch := omega) only [L_0, L_1, L_2, L_3, L_4, L_5, L_6, L_7, L_8, L_9, L_10, L_11, L_12, L_13, L_14, L_15, L_16, L_17, L_18, L_19, L_20, L_21, L_22, L_23, L_24, L_25, L_26, L_27, L_28, L_29, L_30, L_31, L_32, L_33, L_34, L_35, L_40, L_41, L_42, L_43, L_44, L_45, L_47, L_48, L_50, L_53, L_57, L_59, L_60, L_61, L_63, L_64, L_97, L_100, L_101, L_102, L_103, L_122, L_130, L_216, L_255, L_364, L_400, L_402, L_420, L_728, L_768, L_999, L_1000, L_1093, L_1872, L_2000, L_9999, L_12345, L_252645135, L_858993459, L_1103515245, L_1431655765, Lm_1, Lm_2, Lm_8, N_zero, N_cast, N_add, N_mul, N_sub, N_addM, N_lt_tp, N_lt_fp, N_le_tp, N_le_fp, N_eq_tp, N_eq_fp, MN_ltp, MN_lep, NM_ltp, NM_lep, NM_eqp, MN_eqp, MM_lt_tp, MM_lt_fp, MM_le_tp, MM_le_fp, MM_eq_tp, MM_eq_fp, N_cl, N_in_t, N_in_f, M_in, N_div, N_rem, N_nb0, N_nb1, cond_true, cond_false, Bool.not_true, Bool.not_false, Bool.and_true, Bool.true_and, Bool.and_false, Bool.false_and, decide_true, decide_false, Option.bind_some, Option.bind_none]
    | succ k ih =>
      intro b u x hb hk F c hbu R
      by_cases z : b + u = mo + 1
      · refine ⟨x, ?_, F, c, fun sg b' u' d' h1 h2 h3 hbef => R sg b' u' d' h1 h2 h3 (by unfold bef at hbef ⊢; omega)⟩
        rw [q_Laws_reckonCases_L54_eq]
        simp (disch := omega) only [L_0, L_1, L_2, L_3, L_4, L_5, L_6, L_7, L_8, L_9, L_10, L_11, L_12, L_13, L_14, L_15, L_16, L_17, L_18, L_19, L_20, L_21, L_22, L_23, L_24, L_25, L_26, L_27, L_28, L_29, L_30, L_31, L_32, L_33, L_34, L_35, L_40, L_41, L_42, L_43, L_44, L_45, L_47, L_48, L_50, L_53, L_57, L_59, L_60, L_61, L_63, L_64, L_97, L_100, L_101, L_102, L_103, L_122, L_130, L_216, L_255, L_364, L_400, L_402, L_420, L_728, L_768, L_999, L_1000, L_1093, L_1872, L_2000, L_9999, L_12345, L_252645135, L_858993459, L_1103515245, L_1431655765, Lm_1, Lm_2, Lm_8, N_zero, N_cast, N_add, N_mul, N_sub, N_addM, N_lt_tp, N_lt_fp, N_le_tp, N_le_fp, N_eq_tp, N_eq_fp, MN_ltp, MN_lep, NM_ltp, NM_lep, NM_eqp, MN_eqp, MM_lt_tp, MM_lt_fp, MM_le_tp, MM_le_fp, MM_eq_tp, MM_eq_fp, N_cl, N_in_t, N_in_f, M_in, N_div, N_rem, N_nb0, N_nb1, cond_true, cond_false, Bool.not_true, Bool.not_false, Bool.and_true, Bool.true_and, Bool.and_false, Bool.false_and, decide_true, decide_false, Option.bind_some, Option.bind_none]
      · obtain ⟨x1, e1, F1, c1, R1⟩ := step x b u 0 (by omega) (by decide) F c R
        obtain ⟨x2, e2, F2, c2, R2⟩ := step x1 b u 1 (by omega) (by decide) F1 c1 R1
        obtain ⟨x3, e3, F3, c3, R3⟩ := step x2 b u 2 (by omega) (by decide) F2 c2 R2
        have l3 : nN 1 < ldI 3 := (ld_lt 3 (by decide)).mpr rfl
        have e4 : q_Laws_reckonCases_L66 sc x3 q (nN i) (nN mo) (nN b) (nN u) (ldI 3) = q_Laws_reckonCases_L54 sc x3 q (nN i) (nN mo) (nN b) (nN (u + 1)) := by
          rw [q_Laws_reckonCases_L66_eq]
          simp only [L_0, L_1, L_2, L_3, L_4, L_5, L_6, L_7, L_8, L_9, L_10, L_11, L_12, L_13, L_14, L_15, L_16, L_17, L_18, L_19, L_20, L_21, L_22, L_23, L_24, L_25, L_26, L_27, L_28, L_29, L_30, L_31, L_32, L_33, L_34, L_35, L_40, L_41, L_42, L_43, L_44, L_45, L_47, L_48, L_50, L_53, L_57, L_59, L_60, L_61, L_63, L_64, L_97, L_100, L_101, L_102, L_103, L_122, L_130, L_216, L_255, L_364, L_400, L_402, L_420, L_728, L_768, L_999, L_1000, L_1093, L_1872, L_2000, L_9999, L_12345, L_252645135, L_858993459, L_1103515245, L_1431655765, Lm_1, Lm_2, Lm_8, eq_true l3, cond_true, cond_false, Bool.not_true, Bool.not_false, Bool.and_true, Bool.true_and, Bool.and_false, Bool.false_and, decide_true, decide_false, Option.bind_some, Option.bind_none, N_add]
        obtain ⟨x5, e5, F5, c5, R5⟩ := ih b (u + 1) x3 hb (by omega) F3 c3 (by omega) (fun sg b' u' d' h1 h2 h3 hbef => R3 sg b' u' d' h1 h2 h3 (by unfold bef at hbef ⊢; omega))
        refine ⟨x5, ?_, F5, c5, R5⟩
        rw [q_Laws_reckonCases_L54_eq]
        have m1 : Int32.ofInt (-1) = ldI 0 := rfl
        simp (disch := omega) only [m1, L_0, L_1, L_2, L_3, L_4, L_5, L_6, L_7, L_8, L_9, L_10, L_11, L_12, L_13, L_14, L_15, L_16, L_17, L_18, L_19, L_20, L_21, L_22, L_23, L_24, L_25, L_26, L_27, L_28, L_29, L_30, L_31, L_32, L_33, L_34, L_35, L_40, L_41, L_42, L_43, L_44, L_45, L_47, L_48, L_50, L_53, L_57, L_59, L_60, L_61, L_63, L_64, L_97, L_100, L_101, L_102, L_103, L_122, L_130, L_216, L_255, L_364, L_400, L_402, L_420, L_728, L_768, L_999, L_1000, L_1093, L_1872, L_2000, L_9999, L_12345, L_252645135, L_858993459, L_1103515245, L_1431655765, Lm_1, Lm_2, Lm_8, N_zero, N_cast, N_add, N_mul, N_sub, N_addM, N_lt_tp, N_lt_fp, N_le_tp, N_le_fp, N_eq_tp, N_eq_fp, MN_ltp, MN_lep, NM_ltp, NM_lep, NM_eqp, MN_eqp, MM_lt_tp, MM_lt_fp, MM_le_tp, MM_le_fp, MM_eq_tp, MM_eq_fp, N_cl, N_in_t, N_in_f, M_in, N_div, N_rem, N_nb0, N_nb1, cond_true, cond_false, Bool.not_true, Bool.not_false, Bool.and_true, Bool.true_and, Bool.and_false, Bool.false_and, decide_true, decide_false, Option.bind_some, Option.bind_none]
        rw [e1, e2, e3, e4, e5]
  have brown : ∀ k b (x : wb_H), mo + 1 ≤ b + k → b ≤ mo + 1 → FYi q i x0 x → (x.1 44 q 3 = nN e ∧ x.1 44 q 4 = nN su ∧ x.1 44 q 5 = nN i) → (∀ sg b' u' d', sg ≤ 1 → b' + u' ≤ mo → d' ≤ 2 → bef b' u' d' b 0 0 → x.1 46 q (idx i sg b' u' d') = nN (gt0 (lawV (vrs sg b' u' e su i d') brs t))) → Ok (q_Laws_reckonCases_L45 sc x q (nN i) (nN mo) (nN b)) (fun x' => FYi q i x0 x' ∧ ∀ sg b' u' d', sg ≤ 1 → b' + u' ≤ mo → d' ≤ 2 → x'.1 46 q (idx i sg b' u' d') = nN (gt0 (lawV (vrs sg b' u' e su i d') brs t))) := by
    intro k
    induction k with
    | zero =>
      intro b x hk hb F c R
      rw [q_Laws_reckonCases_L45_eq]
      simp (disch := omega) only [L_0, L_1, L_2, L_3, L_4, L_5, L_6, L_7, L_8, L_9, L_10, L_11, L_12, L_13, L_14, L_15, L_16, L_17, L_18, L_19, L_20, L_21, L_22, L_23, L_24, L_25, L_26, L_27, L_28, L_29, L_30, L_31, L_32, L_33, L_34, L_35, L_40, L_41, L_42, L_43, L_44, L_45, L_47, L_48, L_50, L_53, L_57, L_59, L_60, L_61, L_63, L_64, L_97, L_100, L_101, L_102, L_103, L_122, L_130, L_216, L_255, L_364, L_400, L_402, L_420, L_728, L_768, L_999, L_1000, L_1093, L_1872, L_2000, L_9999, L_12345, L_252645135, L_858993459, L_1103515245, L_1431655765, Lm_1, Lm_2, Lm_8, N_zero, N_cast, N_add, N_mul, N_sub, N_addM, N_lt_tp, N_lt_fp, N_le_tp, N_le_fp, N_eq_tp, N_eq_fp, MN_ltp, MN_lep, NM_ltp, NM_lep, NM_eqp, MN_eqp, MM_lt_tp, MM_lt_fp, MM_le_tp, MM_le_fp, MM_eq_tp, MM_eq_fp, N_cl, N_in_t, N_in_f, M_in, N_div, N_rem, N_nb0, N_nb1, cond_true, cond_false, Bool.not_true, Bool.not_false, Bool.and_true, Bool.true_and, Bool.and_false, Bool.false_and, decide_true, decide_false, Option.bind_some, Option.bind_none]
      exact Ok_some ⟨F, fun sg b' u' d' h1 h2 h3 => R sg b' u' d' h1 h2 h3 (by unfold bef; omega)⟩
    | succ k ih =>
      intro b x hk hb F c R
      by_cases z : b = mo + 1
      · rw [q_Laws_reckonCases_L45_eq]
        simp (disch := omega) only [L_0, L_1, L_2, L_3, L_4, L_5, L_6, L_7, L_8, L_9, L_10, L_11, L_12, L_13, L_14, L_15, L_16, L_17, L_18, L_19, L_20, L_21, L_22, L_23, L_24, L_25, L_26, L_27, L_28, L_29, L_30, L_31, L_32, L_33, L_34, L_35, L_40, L_41, L_42, L_43, L_44, L_45, L_47, L_48, L_50, L_53, L_57, L_59, L_60, L_61, L_63, L_64, L_97, L_100, L_101, L_102, L_103, L_122, L_130, L_216, L_255, L_364, L_400, L_402, L_420, L_728, L_768, L_999, L_1000, L_1093, L_1872, L_2000, L_9999, L_12345, L_252645135, L_858993459, L_1103515245, L_1431655765, Lm_1, Lm_2, Lm_8, N_zero, N_cast, N_add, N_mul, N_sub, N_addM, N_lt_tp, N_lt_fp, N_le_tp, N_le_fp, N_eq_tp, N_eq_fp, MN_ltp, MN_lep, NM_ltp, NM_lep, NM_eqp, MN_eqp, MM_lt_tp, MM_lt_fp, MM_le_tp, MM_le_fp, MM_eq_tp, MM_eq_fp, N_cl, N_in_t, N_in_f, M_in, N_div, N_rem, N_nb0, N_nb1, cond_true, cond_false, Bool.not_true, Bool.not_false, Bool.and_true, Bool.true_and, Bool.and_false, Bool.false_and, decide_true, decide_false, Option.bind_some, Option.bind_none]
        exact Ok_some ⟨F, fun sg b' u' d' h1 h2 h3 => R sg b' u' d' h1 h2 h3 (by unfold bef; omega)⟩
      · obtain ⟨x1, e1, F1, c1, R1⟩ := blue (mo + 1) b 0 x (by omega) (by omega) F c (by omega) R
        rw [q_Laws_reckonCases_L45_eq]
        simp (disch := omega) only [L_0, L_1, L_2, L_3, L_4, L_5, L_6, L_7, L_8, L_9, L_10, L_11, L_12, L_13, L_14, L_15, L_16, L_17, L_18, L_19, L_20, L_21, L_22, L_23, L_24, L_25, L_26, L_27, L_28, L_29, L_30, L_31, L_32, L_33, L_34, L_35, L_40, L_41, L_42, L_43, L_44, L_45, L_47, L_48, L_50, L_53, L_57, L_59, L_60, L_61, L_63, L_64, L_97, L_100, L_101, L_102, L_103, L_122, L_130, L_216, L_255, L_364, L_400, L_402, L_420, L_728, L_768, L_999, L_1000, L_1093, L_1872, L_2000, L_9999, L_12345, L_252645135, L_858993459, L_1103515245, L_1431655765, Lm_1, Lm_2, Lm_8, N_zero, N_cast, N_add, N_mul, N_sub, N_addM, N_lt_tp, N_lt_fp, N_le_tp, N_le_fp, N_eq_tp, N_eq_fp, MN_ltp, MN_lep, NM_ltp, NM_lep, NM_eqp, MN_eqp, MM_lt_tp, MM_lt_fp, MM_le_tp, MM_le_fp, MM_eq_tp, MM_eq_fp, N_cl, N_in_t, N_in_f, M_in, N_div, N_rem, N_nb0, N_nb1, cond_true, cond_false, Bool.not_true, Bool.not_false, Bool.and_true, Bool.true_and, Bool.and_false, Bool.false_and, decide_true, decide_false, Option.bind_some, Option.bind_none]
        rw [e1]
        exact ih (b + 1) x1 (by omega) (by omega) F1 c1 R1
  rw [q_Laws_reckonCases_eq]
  simp (disch := omega) only [L_0, L_1, L_2, L_3, L_4, L_5, L_6, L_7, L_8, L_9, L_10, L_11, L_12, L_13, L_14, L_15, L_16, L_17, L_18, L_19, L_20, L_21, L_22, L_23, L_24, L_25, L_26, L_27, L_28, L_29, L_30, L_31, L_32, L_33, L_34, L_35, L_40, L_41, L_42, L_43, L_44, L_45, L_47, L_48, L_50, L_53, L_57, L_59, L_60, L_61, L_63, L_64, L_97, L_100, L_101, L_102, L_103, L_122, L_130, L_216, L_255, L_364, L_400, L_402, L_420, L_728, L_768, L_999, L_1000, L_1093, L_1872, L_2000, L_9999, L_12345, L_252645135, L_858993459, L_1103515245, L_1431655765, Lm_1, Lm_2, Lm_8, N_zero, N_cast, N_add, N_mul, N_sub, N_addM, N_lt_tp, N_lt_fp, N_le_tp, N_le_fp, N_eq_tp, N_eq_fp, MN_ltp, MN_lep, NM_ltp, NM_lep, NM_eqp, MN_eqp, MM_lt_tp, MM_lt_fp, MM_le_tp, MM_le_fp, MM_eq_tp, MM_eq_fp, N_cl, N_in_t, N_in_f, M_in, N_div, N_rem, N_nb0, N_nb1, cond_true, cond_false, Bool.not_true, Bool.not_false, Bool.and_true, Bool.true_and, Bool.and_false, Bool.false_and, decide_true, decide_false, Option.bind_some, Option.bind_none, g, h50, h49, iu_nt (show 49 ≠ 44 by decide), iu_nt (show 50 ≠ 44 by decide), X_min, em]
  have F1 : FYi q i x0 (wb_iu (wb_iu (wb_iu x0 44 q 3 (nN e)) 44 q 4 (nN su)) 44 q 5 (nN i)) := FYi_trans (FYi_trans (FYi_iu (Or.inl rfl)) (FYi_iu (Or.inl rfl))) (FYi_iu (Or.inl rfl))
  refine Ok_w (brown (mo + 1) 0 _ (by omega) (by omega) F1 ⟨by rw [iu_ne (by decide), iu_ne (by decide), iu_at], by rw [iu_ne (by decide), iu_at], iu_at⟩ (fun sg b' u' d' h1 h2 h3 hbef => by unfold bef at hbef; omega)) ?_
  rintro x' ⟨F, R⟩
  exact ⟨F, fun sg b u d h1 h2 h3 h4 => R sg b u d h1 (by omega) h4⟩
end
