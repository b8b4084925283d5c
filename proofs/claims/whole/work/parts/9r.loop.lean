/-! The loop over houses and settings. -/
theorem kap_t1 : ∀ k, k < 42 → okB k = true → k ≠ 20 → kap k ≠ 0 := by decide +kernel
theorem kap_t2 : ∀ k, k < 32 → 27 ≤ k → kap k = k - 26 := by decide +kernel
theorem kap_t3 : ∀ k, k < 42 → okB k = true → (Nat.beq k 20 || Nat.ble 27 k && Nat.ble k 31 || Nat.blt 5 (kap k)) = true := by decide +kernel
theorem kap_t4 : ∀ k, k < 42 → okB k = true → k ≠ 0 → kap k ≠ 103 := by decide +kernel
section
variable {sc : wb_X} {q s : Nat} {kd pl : Nat → Nat} {vl : Nat → Int}
theorem ls_loop {γ : Type} {KX : wb_H → Option γ} {Q : γ → (Int32 × wb_H) → Prop} {x0 m0 : wb_H} (kend : ∀ p w n z y b x m, TopI q s kd pl vl p w n z y b x m → kd p = 0 → FX q x0 x → FM s m0 m → Both (KX (endX x)) (finM sc m) Q) (kdead : ∀ x m, DdE q s x0 m0 x m → Both (KX x) (finM sc m) Q) : ∀ f p w n z y b i x m, 401 ≤ p + f → i ≤ p → FX q x0 x → FM s m0 m → TopI q s kd pl vl p w n z y b x m → Both ((q_Reader_parse_L55 sc x (nN i)).bind KX) (q_M_read_L107 sc m) Q := by
  intro f
  induction f with
  | zero =>
    intro p w n z y b i x m hf hi X0 M0 T
    exfalso
    have := (Lq_p T.1).1
    omega
  | succ f ih =>
    intro p w n z y b i x m hf hi X0 M0 T
    have T' := T
    obtain ⟨H, c15, c73, n6, HR, SR, hb1, hb2⟩ := T'
    obtain ⟨p4, m13, m11, x4, ok⟩ := Lq_p H
    have hq := H.1.2.1
    have hs := H.1.2.2.1
    have g1 : decide (0 < q + 1) = true := decide_eq_true (by omega)
    have g2 : decide (q < 2) = true := decide_eq_true hq
    have ts := H.1.1
    have tm := H.1.2.2.2.2.2.1
    have m2 := H.1.2.2.2.2.1
    have h19 := H.1.2.2.2.2.2.2
    have m67 := (tm p ok).1
    have kl := kap_le (ts.1 p)
    obtain ⟨kb1, kb2⟩ := okB_of (ts.1 p)
    obtain ⟨x8, ww, yy, lm⟩ : x.1 16 0 8 = nN 0 ∧ ∃ ww yy, LvM p ww yy m := by
      obtain ⟨y, hy, o, w5, y2, lx, lm⟩ := H.2.1
      exact ⟨lx.2.2.1, _, _, lm⟩
    have is0 := M_is (sc := sc) ts tm ok lm (show 0 ≤ 100 by decide)
    -- what follows a line
    have next : ∀ x' m', ((FX q x0 x' ∧ FM s m0 m' ∧ ∃ p' w' n' z' y' b', p < p' ∧ TopI q s kd pl vl p' w' n' z' y' b' x' m') ∨ DdE q s x0 m0 x' m') → Both ((q_Reader_parse_L55 sc x' (nN (i + 1))).bind KX) (q_M_read_L107 sc m') Q := by
      intro x' m' h
      rcases h with ⟨X1, M1, p', w', n', z', y', b', hp, T1⟩ | D
      · exact ih p' w' n' z' y' b' (i + 1) x' m' (by omega) (by omega) X1 M1 T1
      · have D' := D
        obtain ⟨X1, M1, f1, e1, he1, D1, D2⟩ := D'
        rw [xD_L55 D1, mD_L107 D2]
        exact kdead x' m' D
    by_cases z0 : kd p = 0
    · rw [if_pos z0] at is0
      have k103 : nN (kap (kd p)) = nN 103 := by rw [z0]; rfl
      rw [q_Reader_parse_L55_eq, L107_e]
      simp (disch := omega) only [L_0, L_1, L_2, L_3, L_4, L_5, L_6, L_7, L_8, L_9, L_10, L_11, L_12, L_13, L_14, L_15, L_16, L_17, L_18, L_19, L_20, L_21, L_22, L_23, L_24, L_25, L_26, L_27, L_28, L_29, L_30, L_31, L_32, L_33, L_34, L_35, L_40, L_41, L_42, L_43, L_44, L_45, L_47, L_48, L_50, L_53, L_57, L_59, L_60, L_61, L_63, L_64, L_97, L_100, L_101, L_102, L_103, L_122, L_130, L_216, L_255, L_364, L_400, L_402, L_420, L_728, L_768, L_999, L_1000, L_1093, L_1872, L_2000, L_9999, L_12345, L_252645135, L_858993459, L_1103515245, L_1431655765, Lm_1, Lm_2, Lm_8, N_zero, N_cast, N_add, N_mul, N_sub, N_addM, N_lt_tp, N_lt_fp, N_le_tp, N_le_fp, N_eq_tp, N_eq_fp, MN_ltp, MN_lep, NM_ltp, NM_lep, NM_eqp, MN_eqp, MM_lt_tp, MM_lt_fp, MM_le_tp, MM_le_fp, MM_eq_tp, MM_eq_fp, N_cl, N_in_t, N_in_f, M_in, N_div, N_rem, N_nb0, N_nb1, cond_true, cond_false, Bool.not_true, Bool.not_false, Bool.and_true, Bool.true_and, Bool.and_false, Bool.false_and, decide_true, decide_false, Option.bind_some, Option.bind_none, x8, x4, k103, m13, is0]
      have go := kend p w n z y b x m T z0 X0 M0
      unfold endX at go
      by_cases y6 : x.1 16 0 6 = nN 0
      · simp only [eq_true y6, cond_true, cond_false, Bool.not_true, Bool.not_false, Bool.and_true, Bool.true_and, Bool.and_false, Bool.false_and, decide_true, decide_false, Option.bind_some, Option.bind_none] at go ⊢
        exact go
      · simp only [eq_false y6, cond_true, cond_false, Bool.not_true, Bool.not_false, Bool.and_true, Bool.true_and, Bool.and_false, Bool.false_and, decide_true, decide_false, Option.bind_some, Option.bind_none, iu_ne (show 7 ≠ 8 by decide)] at go ⊢
        exact go
    · rw [if_neg z0] at is0
      have n103 := kap_t4 _ kb2 kb1 z0
      rw [q_Reader_parse_L55_eq, L107_e]
      by_cases z20 : kd p = 20
      · have k0 : nN (kap (kd p)) = nN 0 := by rw [z20]; rfl
        rw [q_M_tellOne_eq]
        by_cases n5 : n = 6
        · subst n5
          simp (disch := omega) only [L_0, L_1, L_2, L_3, L_4, L_5, L_6, L_7, L_8, L_9, L_10, L_11, L_12, L_13, L_14, L_15, L_16, L_17, L_18, L_19, L_20, L_21, L_22, L_23, L_24, L_25, L_26, L_27, L_28, L_29, L_30, L_31, L_32, L_33, L_34, L_35, L_40, L_41, L_42, L_43, L_44, L_45, L_47, L_48, L_50, L_53, L_57, L_59, L_60, L_61, L_63, L_64, L_97, L_100, L_101, L_102, L_103, L_122, L_130, L_216, L_255, L_364, L_400, L_402, L_420, L_728, L_768, L_999, L_1000, L_1093, L_1872, L_2000, L_9999, L_12345, L_252645135, L_858993459, L_1103515245, L_1431655765, Lm_1, Lm_2, Lm_8, N_zero, N_cast, N_add, N_mul, N_sub, N_addM, N_lt_tp, N_lt_fp, N_le_tp, N_le_fp, N_eq_tp, N_eq_fp, MN_ltp, MN_lep, NM_ltp, NM_lep, NM_eqp, MN_eqp, MM_lt_tp, MM_lt_fp, MM_le_tp, MM_le_fp, MM_eq_tp, MM_eq_fp, N_cl, N_in_t, N_in_f, M_in, N_div, N_rem, N_nb0, N_nb1, cond_true, cond_false, Bool.not_true, Bool.not_false, Bool.and_true, Bool.true_and, Bool.and_false, Bool.false_and, decide_true, decide_false, Option.bind_some, Option.bind_none, x8, x4, k0, m13, is0, m2, g1, g2, Nat.add_sub_cancel, c15, Option.bind_assoc, m11, m67, z20, h19, c73]
          refine Both_bind (ls_fail H.1 H.2.1 (n := 2) (by decide) (by decide)) ?_
          rintro x1 m1 ⟨F, G, D⟩
          have D' := D
          obtain ⟨f1, e1, he1, D1, D2⟩ := D'
          have d0 := D2.1
          have d5 := D2.2.1
          have d13 := D2.2.2.1
          simp (disch := omega) only [dX_take D1, L_0, L_1, L_2, L_3, L_4, L_5, L_6, L_7, L_8, L_9, L_10, L_11, L_12, L_13, L_14, L_15, L_16, L_17, L_18, L_19, L_20, L_21, L_22, L_23, L_24, L_25, L_26, L_27, L_28, L_29, L_30, L_31, L_32, L_33, L_34, L_35, L_40, L_41, L_42, L_43, L_44, L_45, L_47, L_48, L_50, L_53, L_57, L_59, L_60, L_61, L_63, L_64, L_97, L_100, L_101, L_102, L_103, L_122, L_130, L_216, L_255, L_364, L_400, L_402, L_420, L_728, L_768, L_999, L_1000, L_1093, L_1872, L_2000, L_9999, L_12345, L_252645135, L_858993459, L_1103515245, L_1431655765, Lm_1, Lm_2, Lm_8, N_zero, N_cast, N_add, N_mul, N_sub, N_addM, N_lt_tp, N_lt_fp, N_le_tp, N_le_fp, N_eq_tp, N_eq_fp, MN_ltp, MN_lep, NM_ltp, NM_lep, NM_eqp, MN_eqp, MM_lt_tp, MM_lt_fp, MM_le_tp, MM_le_fp, MM_eq_tp, MM_eq_fp, N_cl, N_in_t, N_in_f, M_in, N_div, N_rem, N_nb0, N_nb1, cond_true, cond_false, Bool.not_true, Bool.not_false, Bool.and_true, Bool.true_and, Bool.and_false, Bool.false_and, decide_true, decide_false, Option.bind_some, Option.bind_none, d13]
          exact next x1 m1 (Or.inr ⟨FX_trans X0 (FX_fr F rfl), FM_trans M0 (FM_fr G rfl), f1, e1, he1, D1, D2⟩)
        · simp (disch := omega) only [L_0, L_1, L_2, L_3, L_4, L_5, L_6, L_7, L_8, L_9, L_10, L_11, L_12, L_13, L_14, L_15, L_16, L_17, L_18, L_19, L_20, L_21, L_22, L_23, L_24, L_25, L_26, L_27, L_28, L_29, L_30, L_31, L_32, L_33, L_34, L_35, L_40, L_41, L_42, L_43, L_44, L_45, L_47, L_48, L_50, L_53, L_57, L_59, L_60, L_61, L_63, L_64, L_97, L_100, L_101, L_102, L_103, L_122, L_130, L_216, L_255, L_364, L_400, L_402, L_420, L_728, L_768, L_999, L_1000, L_1093, L_1872, L_2000, L_9999, L_12345, L_252645135, L_858993459, L_1103515245, L_1431655765, Lm_1, Lm_2, Lm_8, N_zero, N_cast, N_add, N_mul, N_sub, N_addM, N_lt_tp, N_lt_fp, N_le_tp, N_le_fp, N_eq_tp, N_eq_fp, MN_ltp, MN_lep, NM_ltp, NM_lep, NM_eqp, MN_eqp, MM_lt_tp, MM_lt_fp, MM_le_tp, MM_le_fp, MM_eq_tp, MM_eq_fp, N_cl, N_in_t, N_in_f, M_in, N_div, N_rem, N_nb0, N_nb1, cond_true, cond_false, Bool.not_true, Bool.not_false, Bool.and_true, Bool.true_and, Bool.and_false, Bool.false_and, decide_true, decide_false, Option.bind_some, Option.bind_none, x8, x4, k0, m13, is0, m2, g1, g2, Nat.add_sub_cancel, c15, Option.bind_assoc, m11, m67, z20, h19, c73, bnd_some]
          exact sorry
      · have n0 := kap_t1 _ kb2 kb1 z20
        sorry
end
