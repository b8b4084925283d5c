/-! Things done: undo, hold, restore. -/
section
variable {sc : wb_X} {B : Nat}
/-- the reference copies 48 cells into now -/
theorem M_undo_L {h : wb_H} {c : Nat} (hc : c < 40) (h54 : h.1 21 0 54 = nN c) : Ok (q_M_undo_L21 sc h (nN 0)) (fun r => r.1 = nN 1 ∧ Fr [95] h r.2 ∧ ∀ k, k < 48 → r.2.1 95 0 k = h.1 100 0 (48 * c + k)) := by
  have key : ∀ m j, j + m = 48 → ∀ h', Fr [95] h h' → (∀ k, k < j → h'.1 95 0 k = h.1 100 0 (48 * c + k)) → Ok (q_M_undo_L21 sc h' (nN j)) (fun r => r.1 = nN 1 ∧ Fr [95] h r.2 ∧ ∀ k, k < 48 → r.2.1 95 0 k = h.1 100 0 (48 * c + k)) := by
    intro m
    induction m with
    | zero =>
      intro j hj h' F g
      rw [q_M_undo_L21_eq]
      simp (disch := omega) only [L_0, L_1, L_2, L_3, L_4, L_5, L_6, L_7, L_8, L_9, L_10, L_11, L_12, L_13, L_14, L_15, L_16, L_17, L_18, L_19, L_20, L_21, L_22, L_23, L_24, L_25, L_26, L_27, L_28, L_29, L_30, L_31, L_32, L_33, L_34, L_35, L_40, L_41, L_42, L_43, L_44, L_45, L_47, L_48, L_50, L_53, L_57, L_59, L_60, L_61, L_63, L_64, L_97, L_100, L_101, L_102, L_103, L_122, L_130, L_216, L_255, L_364, L_400, L_402, L_420, L_728, L_768, L_999, L_1000, L_1093, L_1872, L_2000, L_9999, L_12345, L_252645135, L_858993459, L_1103515245, L_1431655765, Lm_1, Lm_2, Lm_8, N_zero, N_cast, N_add, N_mul, N_sub, N_addM, N_lt_tp, N_lt_fp, N_le_tp, N_le_fp, N_eq_tp, N_eq_fp, MN_ltp, MN_lep, NM_ltp, NM_lep, NM_eqp, MN_eqp, MM_lt_tp, MM_lt_fp, MM_le_tp, MM_le_fp, MM_eq_tp, MM_eq_fp, N_cl, N_in_t, N_in_f, M_in, N_div, N_rem, N_nb0, N_nb1, cond_true, cond_false, Bool.not_true, Bool.not_false, Bool.and_true, Bool.true_and, Bool.and_false, Bool.false_and, decide_true, decide_false, Option.bind_some, Option.bind_none]
      exact Ok_some ⟨rfl, F, fun k hk => g k (by omega)⟩
    | succ m ih =>
      intro j hj h' F g
      have e : h'.1 21 0 54 = nN c := (Fr_i F (by rfl)).trans h54
      have e2 : h'.1 100 0 (48 * c + j) = h.1 100 0 (48 * c + j) := Fr_i F (by rfl)
      rw [q_M_undo_L21_eq]
      simp (disch := omega) only [L_0, L_1, L_2, L_3, L_4, L_5, L_6, L_7, L_8, L_9, L_10, L_11, L_12, L_13, L_14, L_15, L_16, L_17, L_18, L_19, L_20, L_21, L_22, L_23, L_24, L_25, L_26, L_27, L_28, L_29, L_30, L_31, L_32, L_33, L_34, L_35, L_40, L_41, L_42, L_43, L_44, L_45, L_47, L_48, L_50, L_53, L_57, L_59, L_60, L_61, L_63, L_64, L_97, L_100, L_101, L_102, L_103, L_122, L_130, L_216, L_255, L_364, L_400, L_402, L_420, L_728, L_768, L_999, L_1000, L_1093, L_1872, L_2000, L_9999, L_12345, L_252645135, L_858993459, L_1103515245, L_1431655765, Lm_1, Lm_2, Lm_8, N_zero, N_cast, N_add, N_mul, N_sub, N_addM, N_lt_tp, N_lt_fp, N_le_tp, N_le_fp, N_eq_tp, N_eq_fp, MN_ltp, MN_lep, NM_ltp, NM_lep, NM_eqp, MN_eqp, MM_lt_tp, MM_lt_fp, MM_le_tp, MM_le_fp, MM_eq_tp, MM_eq_fp, N_cl, N_in_t, N_in_f, M_in, N_div, N_rem, N_nb0, N_nb1, cond_true, cond_false, Bool.not_true, Bool.not_false, Bool.and_true, Bool.true_and, Bool.and_false, Bool.false_and, decide_true, decide_false, Option.bind_some, Option.bind_none, e, e2]
      refine ih (j + 1) (by omega) _ (Fr_trans F (Fr_iu rfl)) fun k hk => ?_
      by_cases z : k = j
      · rw [z, iu_at]
      · rw [iu_ne z]; exact g k (by omega)
  exact key 48 0 rfl h (Fr_refl _ _) (fun k hk => by omega)
theorem c_undo {h : wb_H} (I : Inv h B) : Same (fun h => q_X_undo sc h) (fun h => q_M_undo sc h) h B := by
  obtain ⟨T, R, v, q, s, C, D⟩ := I
  have n6 := C.1.1
  obtain ⟨a1, a2, a3, a4, a5, a6, a7, a8, a9, a10, a11, a12, a13⟩ := C
  have C : Core h T R v q s B := ⟨a1, a2, a3, a4, a5, a6, a7, a8, a9, a10, a11, a12, a13⟩
  obtain ⟨nx, c, p1, p2, p3, p4, p5, p6⟩ := a9
  by_cases z : c = 0
  · subst z
    refine nothing (a := nN 0) C D ?_ ?_
    · show q_X_undo sc h = _
      rw [q_X_undo_eq, q_Past_recall_eq]
      simp (disch := omega) only [L_0, L_1, L_2, L_3, L_4, L_5, L_6, L_7, L_8, L_9, L_10, L_11, L_12, L_13, L_14, L_15, L_16, L_17, L_18, L_19, L_20, L_21, L_22, L_23, L_24, L_25, L_26, L_27, L_28, L_29, L_30, L_31, L_32, L_33, L_34, L_35, L_40, L_41, L_42, L_43, L_44, L_45, L_47, L_48, L_50, L_53, L_57, L_59, L_60, L_61, L_63, L_64, L_97, L_100, L_101, L_102, L_103, L_122, L_130, L_216, L_255, L_364, L_400, L_402, L_420, L_728, L_768, L_999, L_1000, L_1093, L_1872, L_2000, L_9999, L_12345, L_252645135, L_858993459, L_1103515245, L_1431655765, Lm_1, Lm_2, Lm_8, N_zero, N_cast, N_add, N_mul, N_sub, N_addM, N_lt_tp, N_lt_fp, N_le_tp, N_le_fp, N_eq_tp, N_eq_fp, MN_ltp, MN_lep, NM_ltp, NM_lep, NM_eqp, MN_eqp, MM_lt_tp, MM_lt_fp, MM_le_tp, MM_le_fp, MM_eq_tp, MM_eq_fp, N_cl, N_in_t, N_in_f, M_in, N_div, N_rem, N_nb0, N_nb1, cond_true, cond_false, Bool.not_true, Bool.not_false, Bool.and_true, Bool.true_and, Bool.and_false, Bool.false_and, decide_true, decide_false, Option.bind_some, Option.bind_none, p4]
    · show q_M_undo sc h = _
      rw [q_M_undo_eq]
      simp (disch := omega) only [L_0, L_1, L_2, L_3, L_4, L_5, L_6, L_7, L_8, L_9, L_10, L_11, L_12, L_13, L_14, L_15, L_16, L_17, L_18, L_19, L_20, L_21, L_22, L_23, L_24, L_25, L_26, L_27, L_28, L_29, L_30, L_31, L_32, L_33, L_34, L_35, L_40, L_41, L_42, L_43, L_44, L_45, L_47, L_48, L_50, L_53, L_57, L_59, L_60, L_61, L_63, L_64, L_97, L_100, L_101, L_102, L_103, L_122, L_130, L_216, L_255, L_364, L_400, L_402, L_420, L_728, L_768, L_999, L_1000, L_1093, L_1872, L_2000, L_9999, L_12345, L_252645135, L_858993459, L_1103515245, L_1431655765, Lm_1, Lm_2, Lm_8, N_zero, N_cast, N_add, N_mul, N_sub, N_addM, N_lt_tp, N_lt_fp, N_le_tp, N_le_fp, N_eq_tp, N_eq_fp, MN_ltp, MN_lep, NM_ltp, NM_lep, NM_eqp, MN_eqp, MM_lt_tp, MM_lt_fp, MM_le_tp, MM_le_fp, MM_eq_tp, MM_eq_fp, N_cl, N_in_t, N_in_f, M_in, N_div, N_rem, N_nb0, N_nb1, cond_true, cond_false, Bool.not_true, Bool.not_false, Bool.and_true, Bool.true_and, Bool.and_false, Bool.false_and, decide_true, decide_false, Option.bind_some, Option.bind_none, p5]
  · obtain ⟨R0, v0, b1, b2, b3⟩ := p6 (c - 1) (by omega)
    have ei : (nx + 40 - c + (c - 1)) % 40 = (nx + 40 - 1) % 40 := by omega
    rw [ei] at b3
    have hin : (nx + 40 - 1) % 40 < 40 := Nat.mod_lt _ (by decide)
    have hX : Ok (q_X_undo sc h) (fun r => r.1 = nN 1 ∧ Fr XD h r.2 ∧ r.2.1 20 0 15 = nN 0 ∧ r.2.1 20 0 14 = nM 1 ∧ (∀ l, l < 64 → r.2.1 62 0 l = nM 1) ∧ r.2.1 14 0 1 = nN ((nx + 40 - 1) % 40) ∧ r.2.1 14 0 2 = nN (c - 1) ∧ (∀ k, k < 8 → 1 ≤ k → r.2.1 17 0 k = h.1 17 (1 + (nx + 40 - 1) % 40) k) ∧ (∀ k, k < 30 → r.2.1 54 0 k = h.1 54 (1 + (nx + 40 - 1) % 40) k) ∧ (∀ o, o ≠ 0 → ∀ k, r.2.1 17 o k = h.1 17 o k ∧ r.2.1 54 o k = h.1 54 o k)) := by
      rw [q_X_undo_eq, q_Past_recall_eq]
      simp (disch := omega) only [L_0, L_1, L_2, L_3, L_4, L_5, L_6, L_7, L_8, L_9, L_10, L_11, L_12, L_13, L_14, L_15, L_16, L_17, L_18, L_19, L_20, L_21, L_22, L_23, L_24, L_25, L_26, L_27, L_28, L_29, L_30, L_31, L_32, L_33, L_34, L_35, L_40, L_41, L_42, L_43, L_44, L_45, L_47, L_48, L_50, L_53, L_57, L_59, L_60, L_61, L_63, L_64, L_97, L_100, L_101, L_102, L_103, L_122, L_130, L_216, L_255, L_364, L_400, L_402, L_420, L_728, L_768, L_999, L_1000, L_1093, L_1872, L_2000, L_9999, L_12345, L_252645135, L_858993459, L_1103515245, L_1431655765, Lm_1, Lm_2, Lm_8, N_zero, N_cast, N_add, N_mul, N_sub, N_addM, N_lt_tp, N_lt_fp, N_le_tp, N_le_fp, N_eq_tp, N_eq_fp, MN_ltp, MN_lep, NM_ltp, NM_lep, NM_eqp, MN_eqp, MM_lt_tp, MM_lt_fp, MM_le_tp, MM_le_fp, MM_eq_tp, MM_eq_fp, N_cl, N_in_t, N_in_f, M_in, N_div, N_rem, N_nb0, N_nb1, cond_true, cond_false, Bool.not_true, Bool.not_false, Bool.and_true, Bool.true_and, Bool.and_false, Bool.false_and, decide_true, decide_false, Option.bind_some, Option.bind_none, p3, p4, iu_ne (show 2 ≠ 1 by decide), iu_ne (show 1 ≠ 2 by decide), iu_at, show decide (0 < 44) = true from rfl]
      generalize hg : wb_iu (wb_iu h 14 0 1 (nN ((nx + 40 - 1) % 40))) 14 0 2 (nN (c - 1)) = h1
      have F1 : Fr [9001, 9002] h h1 := by rw [← hg]; exact Fr_trans (Fr_iu rfl) (Fr_iu rfl)
      have t1 : h1.1 14 0 1 = nN ((nx + 40 - 1) % 40) := by rw [← hg, iu_ne (by decide), iu_at]
      have t2 : h1.1 14 0 2 = nN (c - 1) := by rw [← hg, iu_at]
      rw [Option.bind_assoc]
      refine Ok_bind (X_copy (d := 0) (o := 1 + (nx + 40 - 1) % 40) (by decide) (by omega) (by omega) ((congrArg wb_nb (Fr_i F1 (by rfl))).trans b3.2.2.2.2.2.2.1)) ?_
      rintro h2 ⟨F2, c1, c2, c3⟩
      simp (disch := omega) only [L_0, L_1, L_2, L_3, L_4, L_5, L_6, L_7, L_8, L_9, L_10, L_11, L_12, L_13, L_14, L_15, L_16, L_17, L_18, L_19, L_20, L_21, L_22, L_23, L_24, L_25, L_26, L_27, L_28, L_29, L_30, L_31, L_32, L_33, L_34, L_35, L_40, L_41, L_42, L_43, L_44, L_45, L_47, L_48, L_50, L_53, L_57, L_59, L_60, L_61, L_63, L_64, L_97, L_100, L_101, L_102, L_103, L_122, L_130, L_216, L_255, L_364, L_400, L_402, L_420, L_728, L_768, L_999, L_1000, L_1093, L_1872, L_2000, L_9999, L_12345, L_252645135, L_858993459, L_1103515245, L_1431655765, Lm_1, Lm_2, Lm_8, N_zero, N_cast, N_add, N_mul, N_sub, N_addM, N_lt_tp, N_lt_fp, N_le_tp, N_le_fp, N_eq_tp, N_eq_fp, MN_ltp, MN_lep, NM_ltp, NM_lep, NM_eqp, MN_eqp, MM_lt_tp, MM_lt_fp, MM_le_tp, MM_le_fp, MM_eq_tp, MM_eq_fp, N_cl, N_in_t, N_in_f, M_in, N_div, N_rem, N_nb0, N_nb1, cond_true, cond_false, Bool.not_true, Bool.not_false, Bool.and_true, Bool.true_and, Bool.and_false, Bool.false_and, decide_true, decide_false, Option.bind_some, Option.bind_none]
      refine Ok_bind X_forgetA ?_
      rintro h3 ⟨F3, w1, w2, w3⟩
      have f17 : ∀ o k, h3.1 17 o k = h2.1 17 o k := fun o k => Fr_i F3 (by rfl)
      have f54 : ∀ o k, h3.1 54 o k = h2.1 54 o k := fun o k => Fr_i F3 (by rfl)
      have g17 : ∀ o k, h1.1 17 o k = h.1 17 o k := fun o k => Fr_i F1 (by rfl)
      have g54 : ∀ o k, h1.1 54 o k = h.1 54 o k := fun o k => Fr_i F1 (by rfl)
      refine Ok_some ⟨rfl, Fr_trans (Fr_mono F1 rfl) (Fr_trans (Fr_mono F2 rfl) (Fr_mono F3 rfl)), w1, w2, w3, ?_, ?_, fun k hk hk1 => ?_, fun k hk => ?_, fun o ho k => ⟨?_, ?_⟩⟩
      · rw [Fr_i F3 (t := 14) (by rfl), Fr_i F2 (t := 14) (by rfl)]; exact t1
      · rw [Fr_i F3 (t := 14) (by rfl), Fr_i F2 (t := 14) (by rfl)]; exact t2
      · rw [f17, c1 k hk hk1, g17]
      · rw [f54, c2 k hk, g54]
      · rw [f17, (c3 o ho k).1, g17]
      · rw [f54, (c3 o ho k).2, g54]
    refine Ok_w hX ?_
    rintro ⟨x, h2⟩ ⟨x1, F2, w1, w2, w3, t1, t2, y1, y2, y3⟩
    simp only at x1 F2 w1 w2 w3 t1 t2 y1 y2 y3 ⊢
    have e54 : h2.1 21 0 54 = nN c := (Fr_i F2 (by rfl)).trans p5
    rw [q_M_undo_eq]
    simp (disch := omega) only [L_0, L_1, L_2, L_3, L_4, L_5, L_6, L_7, L_8, L_9, L_10, L_11, L_12, L_13, L_14, L_15, L_16, L_17, L_18, L_19, L_20, L_21, L_22, L_23, L_24, L_25, L_26, L_27, L_28, L_29, L_30, L_31, L_32, L_33, L_34, L_35, L_40, L_41, L_42, L_43, L_44, L_45, L_47, L_48, L_50, L_53, L_57, L_59, L_60, L_61, L_63, L_64, L_97, L_100, L_101, L_102, L_103, L_122, L_130, L_216, L_255, L_364, L_400, L_402, L_420, L_728, L_768, L_999, L_1000, L_1093, L_1872, L_2000, L_9999, L_12345, L_252645135, L_858993459, L_1103515245, L_1431655765, Lm_1, Lm_2, Lm_8, N_zero, N_cast, N_add, N_mul, N_sub, N_addM, N_lt_tp, N_lt_fp, N_le_tp, N_le_fp, N_eq_tp, N_eq_fp, MN_ltp, MN_lep, NM_ltp, NM_lep, NM_eqp, MN_eqp, MM_lt_tp, MM_lt_fp, MM_le_tp, MM_le_fp, MM_eq_tp, MM_eq_fp, N_cl, N_in_t, N_in_f, M_in, N_div, N_rem, N_nb0, N_nb1, cond_true, cond_false, Bool.not_true, Bool.not_false, Bool.and_true, Bool.true_and, Bool.and_false, Bool.false_and, decide_true, decide_false, Option.bind_some, Option.bind_none, e54]
    have F3 : Fr [1054] h2 (wb_iu h2 21 0 54 (nN (c - 1))) := Fr_iu rfl
    refine Ok_w (M_undo_L (c := c - 1) (by omega) iu_at) ?_
    rintro ⟨y, h5⟩ ⟨m1, F5, m2⟩
    simp only at m1 F5 m2 ⊢
    refine ⟨m1.trans x1.symm, T, R0, v0, q, s, ?_, Cache_new n6 ?_ ?_ fun l hl => ?_⟩
    · have FF : Fr [17, 54, 9001, 9002, 62, 2014, 2015, 1054, 95] h h5 := Fr_trans (Fr_mono F2 rfl) (Fr_trans (Fr_mono F3 rfl) (Fr_mono F5 rfl))
      have FL : Fr [1054, 95] h2 h5 := Fr_trans (Fr_mono F3 rfl) (Fr_mono F5 rfl)
      have i17 : ∀ o k, h5.1 17 o k = h2.1 17 o k := fun o k => Fr_i FL (by rfl)
      have i54 : ∀ o k, h5.1 54 o k = h2.1 54 o k := fun o k => Fr_i FL (by rfl)
      have i100 : ∀ k, h5.1 100 0 k = h.1 100 0 k := fun k => Fr_i FF (by rfl)
      refine ⟨a1, b1, b2, XT_fr FF rfl a4, MT_fr FF rfl rfl a5, (Fr_m FF (by rfl)).trans a6, (Fr_m FF (by rfl)).trans a7, ?_, ?_, ?_, ?_, ?_, ?_⟩
      · refine SR_eq (fun k hk hk1 => (i17 _ _).trans (y1 k hk hk1)) (fun k hk => (i54 _ _).trans (y2 k hk)) (fun k hk => ?_) n6 b3
        rw [Nat.zero_add, m2 k hk, iu_nt (by decide), Fr_i F2 (t := 100) (by rfl)]
      · refine ⟨(nx + 40 - 1) % 40, c - 1, hin, by omega, ?_, ?_, ?_, fun j hj => ?_⟩
        · rw [Fr_i FL (t := 14) (by rfl)]; exact t1
        · rw [Fr_i FL (t := 14) (by rfl)]; exact t2
        · rw [Fr_i F5 (t := 21) (by rfl), iu_at]
        · obtain ⟨R1, v1, d1, d2, d3⟩ := p6 j (by omega)
          refine ⟨R1, v1, d1, d2, ?_⟩
          have e2 : ((nx + 40 - 1) % 40 + 40 - (c - 1) + j) % 40 = (nx + 40 - c + j) % 40 := by omega
          rw [e2]
          exact SR_eq (fun k _ _ => (i17 _ _).trans (y3 _ (by omega) k).1) (fun k _ => (i54 _ _).trans (y3 _ (by omega) k).2) (fun k _ => i100 _) n6 d3
      · intro j hj
        obtain ⟨b, d1, d2, d3, d4⟩ := a10 j hj
        refine ⟨b, d1, (Fr_i FF (by rfl)).trans d2, (Fr_i FF (by rfl)).trans d3, fun e => ?_⟩
        obtain ⟨R1, v1, f1, f2, f3⟩ := d4 e
        exact ⟨R1, v1, f1, f2, SR_eq (fun k _ _ => (i17 _ _).trans (y3 _ (by omega) k).1) (fun k _ => (i54 _ _).trans (y3 _ (by omega) k).2) (fun k _ => Fr_i FF (by rfl)) n6 f3⟩
      · obtain ⟨k, d1, d2, d3, d4⟩ := a11
        refine ⟨k, d1, (Fr_i FF (by rfl)).trans d2, (Fr_i FF (by rfl)).trans d3, fun j hj => ?_⟩
        obtain ⟨a, b, u, sg, ld, br, c1, c2, c3, c4, c5, c6, d1, d2, d3, d4, d5, d6, d7, d8, d9⟩ := d4 j hj
        exact ⟨a, b, u, sg, ld, br, c1, c2, c3, c4, c5, c6, (Fr_i FF (by rfl)).trans d1, (Fr_i FF (by rfl)).trans d2, (Fr_i FF (by rfl)).trans d3, (Fr_i FF (by rfl)).trans d4, (Fr_i FF (by rfl)).trans d5, (Fr_i FF (by rfl)).trans d6, (Fr_i FF (by rfl)).trans d7, (Fr_i FF (by rfl)).trans d8, (Fr_i FF (by rfl)).trans d9⟩
      · obtain ⟨t, d1, d2, d3, d4⟩ := a12
        exact ⟨t, d1, (Fr_i FF (by rfl)).trans d2, (Fr_i FF (by rfl)).trans d3, fun j hj => by rw [Fr_i FF (t := 55) (by rfl), Fr_i FF (t := 65) (by rfl)]; exact d4 j hj⟩
      · obtain ⟨k1, k2, k3⟩ := a13
        exact ⟨by rw [Fr_i FF (t := 16) (by rfl), Fr_i FF (t := 21) (by rfl)]; exact k1, fun k hk => (Fr_l FF (by rfl)).trans (k2 k hk), fun k hk => (Fr_l FF (by rfl)).trans (k3 k hk)⟩
    · rw [Fr_i F5 (t := 20) (by rfl), iu_nt (by decide)]; exact w1
    · rw [Fr_i F5 (t := 20) (by rfl), iu_nt (by decide)]; exact w2
    · rw [Fr_i F5 (t := 62) (by rfl), iu_nt (by decide)]; exact w3 l hl
/-- nothing but standings (from one on), rows and what undoes has changed -/
theorem Core_std {h h5 : wb_H} {T : wT} {R R0 : wR} {v v0 q s B : Nat} (C : Core h T R v q s B) (hR : R_ok T R0) (hv : v0 ≤ B) {L : List Nat} (FF : Fr L h h5) (d1 : wb_dj [22, 23, 24, 25, 26, 104, 105, 106, 107, 7005, 1059, 5001, 55, 65, 1002, 4009, 1017, 56, 71, 2002, 2003] L = true) (d2 : wb_dj CL2 L = true) (d3 : wb_dj TT1 L = true) (d4 : wb_dj TT2 L = true)
    (S : SR h5 T 0 95 0 R0 v0) (P : Past h5 T B) (Sl : Slots h5 T B) : Core h5 T R0 v0 q s B := by
  have g : ∀ x, wb_mem x [22, 23, 24, 25, 26, 104, 105, 106, 107, 7005, 1059, 5001, 55, 65, 1002, 4009, 1017, 56, 71, 2002, 2003] = true → wb_mem x L = false := fun x hx => wb_dj_mem d1 hx
  obtain ⟨a1, a2, a3, a4, a5, a6, a7, a8, a9, a10, a11, a12, a13⟩ := C
  refine ⟨a1, hR, hv, XT_fr FF d2 a4, MT_fr FF d3 d4 a5, (Fr_m FF (by exact g 2002 rfl)).trans a6, (Fr_m FF (by exact g 2003 rfl)).trans a7, S, P, Sl, ?_, ?_, ?_⟩
  · obtain ⟨k, d1, d2, d3, d4⟩ := a11
    refine ⟨k, d1, (Fr_i FF (by exact g 7005 rfl)).trans d2, (Fr_i FF (by exact g 1059 rfl)).trans d3, fun j hj => ?_⟩
    obtain ⟨a, b, u, sg, ld, br, c1, c2, c3, c4, c5, c6, d1, d2, d3, d4, d5, d6, d7, d8, d9⟩ := d4 j hj
    exact ⟨a, b, u, sg, ld, br, c1, c2, c3, c4, c5, c6, (Fr_i FF (by exact g 22 rfl)).trans d1, (Fr_i FF (by exact g 104 rfl)).trans d2, (Fr_i FF (by exact g 23 rfl)).trans d3, (Fr_i FF (by exact g 105 rfl)).trans d4, (Fr_i FF (by exact g 106 rfl)).trans d5, (Fr_i FF (by exact g 24 rfl)).trans d6, (Fr_i FF (by exact g 25 rfl)).trans d7, (Fr_i FF (by exact g 26 rfl)).trans d8, (Fr_i FF (by exact g 107 rfl)).trans d9⟩
  · obtain ⟨t, d1, d2, d3, d4⟩ := a12
    exact ⟨t, d1, (Fr_i FF (by exact g 5001 rfl)).trans d2, (Fr_i FF (by exact g 1002 rfl)).trans d3, fun j hj => by rw [Fr_i FF (t := 55) (by exact g 55 rfl), Fr_i FF (t := 65) (by exact g 65 rfl)]; exact d4 j hj⟩
  · obtain ⟨k1, k2, k3⟩ := a13
    exact ⟨by rw [Fr_i FF (t := 16) (k := 9) (by exact g 4009 rfl), Fr_i FF (t := 21) (k := 17) (by exact g 1017 rfl)]; exact k1, fun k hk => (Fr_l FF (by exact g 56 rfl)).trans (k2 k hk), fun k hk => (Fr_l FF (by exact g 71 rfl)).trans (k3 k hk)⟩
theorem X_isSlot_t {h : wb_H} {j : Nat} (hj : j < 3) : q_X_isSlot sc h (nN j) = some (nN 1, h) := by
  rw [q_X_isSlot_eq]
  simp (disch := omega) only [L_0, L_1, L_2, L_3, L_4, L_5, L_6, L_7, L_8, L_9, L_10, L_11, L_12, L_13, L_14, L_15, L_16, L_17, L_18, L_19, L_20, L_21, L_22, L_23, L_24, L_25, L_26, L_27, L_28, L_29, L_30, L_31, L_32, L_33, L_34, L_35, L_40, L_41, L_42, L_43, L_44, L_45, L_47, L_48, L_50, L_53, L_57, L_59, L_60, L_61, L_63, L_64, L_97, L_100, L_101, L_102, L_103, L_122, L_130, L_216, L_255, L_364, L_400, L_402, L_420, L_728, L_768, L_999, L_1000, L_1093, L_1872, L_2000, L_9999, L_12345, L_252645135, L_858993459, L_1103515245, L_1431655765, Lm_1, Lm_2, Lm_8, N_zero, N_cast, N_add, N_mul, N_sub, N_addM, N_lt_tp, N_lt_fp, N_le_tp, N_le_fp, N_eq_tp, N_eq_fp, MN_ltp, MN_lep, NM_ltp, NM_lep, NM_eqp, MN_eqp, MM_lt_tp, MM_lt_fp, MM_le_tp, MM_le_fp, MM_eq_tp, MM_eq_fp, N_cl, N_in_t, N_in_f, M_in, N_div, N_rem, N_nb0, N_nb1, cond_true, cond_false, Bool.not_true, Bool.not_false, Bool.and_true, Bool.true_and, Bool.and_false, Bool.false_and, decide_true, decide_false, Option.bind_some, Option.bind_none]
theorem X_isSlot_f {h : wb_H} {a : Int32} (ha : ¬ hsP (2 + 1) a) : q_X_isSlot sc h a = some (nN 0, h) := by
  rw [q_X_isSlot_eq]
  rcases NM_all a with ⟨k, rfl, hk⟩ | ⟨k, rfl, hk1, hk2⟩
  · have : ¬ k < 2 + 1 := fun t => ha ⟨k, t, rfl⟩
    simp (disch := omega) only [L_0, L_1, L_2, L_3, L_4, L_5, L_6, L_7, L_8, L_9, L_10, L_11, L_12, L_13, L_14, L_15, L_16, L_17, L_18, L_19, L_20, L_21, L_22, L_23, L_24, L_25, L_26, L_27, L_28, L_29, L_30, L_31, L_32, L_33, L_34, L_35, L_40, L_41, L_42, L_43, L_44, L_45, L_47, L_48, L_50, L_53, L_57, L_59, L_60, L_61, L_63, L_64, L_97, L_100, L_101, L_102, L_103, L_122, L_130, L_216, L_255, L_364, L_400, L_402, L_420, L_728, L_768, L_999, L_1000, L_1093, L_1872, L_2000, L_9999, L_12345, L_252645135, L_858993459, L_1103515245, L_1431655765, Lm_1, Lm_2, Lm_8, N_zero, N_cast, N_add, N_mul, N_sub, N_addM, N_lt_tp, N_lt_fp, N_le_tp, N_le_fp, N_eq_tp, N_eq_fp, MN_ltp, MN_lep, NM_ltp, NM_lep, NM_eqp, MN_eqp, MM_lt_tp, MM_lt_fp, MM_le_tp, MM_le_fp, MM_eq_tp, MM_eq_fp, N_cl, N_in_t, N_in_f, M_in, N_div, N_rem, N_nb0, N_nb1, cond_true, cond_false, Bool.not_true, Bool.not_false, Bool.and_true, Bool.true_and, Bool.and_false, Bool.false_and, decide_true, decide_false, Option.bind_some, Option.bind_none]
  · simp (disch := omega) only [L_0, L_1, L_2, L_3, L_4, L_5, L_6, L_7, L_8, L_9, L_10, L_11, L_12, L_13, L_14, L_15, L_16, L_17, L_18, L_19, L_20, L_21, L_22, L_23, L_24, L_25, L_26, L_27, L_28, L_29, L_30, L_31, L_32, L_33, L_34, L_35, L_40, L_41, L_42, L_43, L_44, L_45, L_47, L_48, L_50, L_53, L_57, L_59, L_60, L_61, L_63, L_64, L_97, L_100, L_101, L_102, L_103, L_122, L_130, L_216, L_255, L_364, L_400, L_402, L_420, L_728, L_768, L_999, L_1000, L_1093, L_1872, L_2000, L_9999, L_12345, L_252645135, L_858993459, L_1103515245, L_1431655765, Lm_1, Lm_2, Lm_8, N_zero, N_cast, N_add, N_mul, N_sub, N_addM, N_lt_tp, N_lt_fp, N_le_tp, N_le_fp, N_eq_tp, N_eq_fp, MN_ltp, MN_lep, NM_ltp, NM_lep, NM_eqp, MN_eqp, MM_lt_tp, MM_lt_fp, MM_le_tp, MM_le_fp, MM_eq_tp, MM_eq_fp, N_cl, N_in_t, N_in_f, M_in, N_div, N_rem, N_nb0, N_nb1, cond_true, cond_false, Bool.not_true, Bool.not_false, Bool.and_true, Bool.true_and, Bool.and_false, Bool.false_and, decide_true, decide_false, Option.bind_some, Option.bind_none]
theorem c_hold {h : wb_H} (I : Inv h B) (a : Int32) : Same (fun h => q_X_hold sc h a) (fun h => q_M_hold sc h a) h B := by
  obtain ⟨T, R, v, q, s, C, D⟩ := I
  have n6 := C.1.1
  by_cases ha : hsP (2 + 1) a
  · obtain ⟨j, hj, rfl⟩ := ha
    have S := C.2.2.2.2.2.2.2.1
    have g44 : decide (41 + j < 44) = true := decide_eq_true (by omega)
    have hX : Ok (q_X_hold sc h (nN j)) (fun r => r.1 = nN 1 ∧ Fr [17, 54, 61] h r.2 ∧ r.2.1 61 0 j = nN 1 ∧ (∀ k, k ≠ j → r.2.1 61 0 k = h.1 61 0 k) ∧ (∀ k, k < 8 → 1 ≤ k → r.2.1 17 (41 + j) k = h.1 17 0 k) ∧ (∀ k, k < 30 → r.2.1 54 (41 + j) k = h.1 54 0 k) ∧ (∀ o, o ≠ 41 + j → ∀ k, r.2.1 17 o k = h.1 17 o k ∧ r.2.1 54 o k = h.1 54 o k)) := by
      rw [q_X_hold_eq, X_isSlot_t (by omega)]
      simp (disch := omega) only [L_0, L_1, L_2, L_3, L_4, L_5, L_6, L_7, L_8, L_9, L_10, L_11, L_12, L_13, L_14, L_15, L_16, L_17, L_18, L_19, L_20, L_21, L_22, L_23, L_24, L_25, L_26, L_27, L_28, L_29, L_30, L_31, L_32, L_33, L_34, L_35, L_40, L_41, L_42, L_43, L_44, L_45, L_47, L_48, L_50, L_53, L_57, L_59, L_60, L_61, L_63, L_64, L_97, L_100, L_101, L_102, L_103, L_122, L_130, L_216, L_255, L_364, L_400, L_402, L_420, L_728, L_768, L_999, L_1000, L_1093, L_1872, L_2000, L_9999, L_12345, L_252645135, L_858993459, L_1103515245, L_1431655765, Lm_1, Lm_2, Lm_8, N_zero, N_cast, N_add, N_mul, N_sub, N_addM, N_lt_tp, N_lt_fp, N_le_tp, N_le_fp, N_eq_tp, N_eq_fp, MN_ltp, MN_lep, NM_ltp, NM_lep, NM_eqp, MN_eqp, MM_lt_tp, MM_lt_fp, MM_le_tp, MM_le_fp, MM_eq_tp, MM_eq_fp, N_cl, N_in_t, N_in_f, M_in, N_div, N_rem, N_nb0, N_nb1, cond_true, cond_false, Bool.not_true, Bool.not_false, Bool.and_true, Bool.true_and, Bool.and_false, Bool.false_and, decide_true, decide_false, Option.bind_some, Option.bind_none, g44]
      refine Ok_bind (X_copy (d := 41 + j) (o := 0) (by omega) (by decide) (by omega) S.2.2.2.2.2.2.1) ?_
      rintro h2 ⟨F2, c1, c2, c3⟩
      refine Ok_some ⟨rfl, Fr_trans (Fr_mono F2 rfl) (Fr_iu rfl), iu_at, fun k hk => ?_, fun k hk hk1 => ?_, fun k hk => ?_, fun o ho k => ?_⟩
      · rw [iu_ne hk]; exact Fr_i F2 (by rfl)
      · rw [iu_nt (by decide)]; exact c1 k hk hk1
      · rw [iu_nt (by decide)]; exact c2 k hk
      · rw [iu_nt (by decide), iu_nt (by decide)]; exact c3 o ho k
    refine Ok_w hX ?_
    rintro ⟨x, h2⟩ ⟨x1, F2, t1, t2, y1, y2, y3⟩
    simp only at x1 F2 t1 t2 y1 y2 y3 ⊢
    rw [q_M_hold_eq]
    simp only [L_0, L_1, L_2, L_3, L_4, L_5, L_6, L_7, L_8, L_9, L_10, L_11, L_12, L_13, L_14, L_15, L_16, L_17, L_18, L_19, L_20, L_21, L_22, L_23, L_24, L_25, L_26, L_27, L_28, L_29, L_30, L_31, L_32, L_33, L_34, L_35, L_40, L_41, L_42, L_43, L_44, L_45, L_47, L_48, L_50, L_53, L_57, L_59, L_60, L_61, L_63, L_64, L_97, L_100, L_101, L_102, L_103, L_122, L_130, L_216, L_255, L_364, L_400, L_402, L_420, L_728, L_768, L_999, L_1000, L_1093, L_1872, L_2000, L_9999, L_12345, L_252645135, L_858993459, L_1103515245, L_1431655765, Lm_1, Lm_2, Lm_8]
    rw [M_in_t (by omega) (by decide)]
    simp (disch := omega) only [L_0, L_1, L_2, L_3, L_4, L_5, L_6, L_7, L_8, L_9, L_10, L_11, L_12, L_13, L_14, L_15, L_16, L_17, L_18, L_19, L_20, L_21, L_22, L_23, L_24, L_25, L_26, L_27, L_28, L_29, L_30, L_31, L_32, L_33, L_34, L_35, L_40, L_41, L_42, L_43, L_44, L_45, L_47, L_48, L_50, L_53, L_57, L_59, L_60, L_61, L_63, L_64, L_97, L_100, L_101, L_102, L_103, L_122, L_130, L_216, L_255, L_364, L_400, L_402, L_420, L_728, L_768, L_999, L_1000, L_1093, L_1872, L_2000, L_9999, L_12345, L_252645135, L_858993459, L_1103515245, L_1431655765, Lm_1, Lm_2, Lm_8, N_zero, N_cast, N_add, N_mul, N_sub, N_addM, N_lt_tp, N_lt_fp, N_le_tp, N_le_fp, N_eq_tp, N_eq_fp, MN_ltp, MN_lep, NM_ltp, NM_lep, NM_eqp, MN_eqp, MM_lt_tp, MM_lt_fp, MM_le_tp, MM_le_fp, MM_eq_tp, MM_eq_fp, N_cl, N_in_t, N_in_f, M_in, N_div, N_rem, N_nb0, N_nb1, cond_true, cond_false, Bool.not_true, Bool.not_false, Bool.and_true, Bool.true_and, Bool.and_false, Bool.false_and, decide_true, decide_false, Option.bind_some, Option.bind_none]
    have key : ∀ m i, i + m = 48 → ∀ h', Fr [109] (wb_iu h2 108 0 j (nN 1)) h' → (∀ k, k < i → h'.1 109 0 (48 * j + k) = h2.1 95 0 k) → (∀ x, (x < 48 * j ∨ 48 * j + 48 ≤ x) → h'.1 109 0 x = h2.1 109 0 x) → Ok (q_M_hold_L20 sc h' (nN j) (nN i)) (fun r => r.1 = nN 1 ∧ Fr [109] (wb_iu h2 108 0 j (nN 1)) r.2 ∧ (∀ k, k < 48 → r.2.1 109 0 (48 * j + k) = h2.1 95 0 k) ∧ (∀ x, (x < 48 * j ∨ 48 * j + 48 ≤ x) → r.2.1 109 0 x = h2.1 109 0 x)) := by
      intro m
      induction m with
      | zero =>
        intro i hi h' F g1 g2
        rw [q_M_hold_L20_eq]
        simp (disch := omega) only [L_0, L_1, L_2, L_3, L_4, L_5, L_6, L_7, L_8, L_9, L_10, L_11, L_12, L_13, L_14, L_15, L_16, L_17, L_18, L_19, L_20, L_21, L_22, L_23, L_24, L_25, L_26, L_27, L_28, L_29, L_30, L_31, L_32, L_33, L_34, L_35, L_40, L_41, L_42, L_43, L_44, L_45, L_47, L_48, L_50, L_53, L_57, L_59, L_60, L_61, L_63, L_64, L_97, L_100, L_101, L_102, L_103, L_122, L_130, L_216, L_255, L_364, L_400, L_402, L_420, L_728, L_768, L_999, L_1000, L_1093, L_1872, L_2000, L_9999, L_12345, L_252645135, L_858993459, L_1103515245, L_1431655765, Lm_1, Lm_2, Lm_8, N_zero, N_cast, N_add, N_mul, N_sub, N_addM, N_lt_tp, N_lt_fp, N_le_tp, N_le_fp, N_eq_tp, N_eq_fp, MN_ltp, MN_lep, NM_ltp, NM_lep, NM_eqp, MN_eqp, MM_lt_tp, MM_lt_fp, MM_le_tp, MM_le_fp, MM_eq_tp, MM_eq_fp, N_cl, N_in_t, N_in_f, M_in, N_div, N_rem, N_nb0, N_nb1, cond_true, cond_false, Bool.not_true, Bool.not_false, Bool.and_true, Bool.true_and, Bool.and_false, Bool.false_and, decide_true, decide_false, Option.bind_some, Option.bind_none]
        exact Ok_some ⟨rfl, F, fun k hk => g1 k (by omega), g2⟩
      | succ m ih =>
        intro i hi h' F g1 g2
        have e : h'.1 95 0 i = h2.1 95 0 i := by rw [Fr_i F (t := 95) (by rfl), iu_nt (by decide)]
        rw [q_M_hold_L20_eq]
        simp (disch := omega) only [L_0, L_1, L_2, L_3, L_4, L_5, L_6, L_7, L_8, L_9, L_10, L_11, L_12, L_13, L_14, L_15, L_16, L_17, L_18, L_19, L_20, L_21, L_22, L_23, L_24, L_25, L_26, L_27, L_28, L_29, L_30, L_31, L_32, L_33, L_34, L_35, L_40, L_41, L_42, L_43, L_44, L_45, L_47, L_48, L_50, L_53, L_57, L_59, L_60, L_61, L_63, L_64, L_97, L_100, L_101, L_102, L_103, L_122, L_130, L_216, L_255, L_364, L_400, L_402, L_420, L_728, L_768, L_999, L_1000, L_1093, L_1872, L_2000, L_9999, L_12345, L_252645135, L_858993459, L_1103515245, L_1431655765, Lm_1, Lm_2, Lm_8, N_zero, N_cast, N_add, N_mul, N_sub, N_addM, N_lt_tp, N_lt_fp, N_le_tp, N_le_fp, N_eq_tp, N_eq_fp, MN_ltp, MN_lep, NM_ltp, NM_lep, NM_eqp, MN_eqp, MM_lt_tp, MM_lt_fp, MM_le_tp, MM_le_fp, MM_eq_tp, MM_eq_fp, N_cl, N_in_t, N_in_f, M_in, N_div, N_rem, N_nb0, N_nb1, cond_true, cond_false, Bool.not_true, Bool.not_false, Bool.and_true, Bool.true_and, Bool.and_false, Bool.false_and, decide_true, decide_false, Option.bind_some, Option.bind_none, e]
        refine ih (i + 1) (by omega) _ (Fr_trans F (Fr_iu rfl)) (fun k hk => ?_) (fun x hx => ?_)
        · by_cases z : k = i
          · rw [z, iu_at]
          · rw [iu_ne (by omega)]; exact g1 k (by omega)
        · rw [iu_ne (by omega)]; exact g2 x hx
    refine Ok_w (key 48 0 rfl _ (Fr_refl _ _) (fun k hk => by omega) (fun x _ => iu_nt (by decide))) ?_
    rintro ⟨y, h5⟩ ⟨m1, F5, m2, m3⟩
    simp only at m1 F5 m2 m3 ⊢
    have FL : Fr [108, 109] h2 h5 := Fr_trans (Fr_iu rfl) (Fr_mono F5 rfl)
    have FF : Fr [17, 54, 61, 108, 109] h h5 := Fr_trans (Fr_mono F2 rfl) (Fr_mono FL rfl)
    have i17 : ∀ o k, h5.1 17 o k = h2.1 17 o k := fun o k => Fr_i FL (by rfl)
    have i54 : ∀ o k, h5.1 54 o k = h2.1 54 o k := fun o k => Fr_i FL (by rfl)
    have i95 : ∀ k, h5.1 95 0 k = h.1 95 0 k := fun k => Fr_i FF (by rfl)
    have C5 : Core h5 T R v q s B := by
      refine Core_std C C.2.1 C.2.2.1 FF rfl rfl rfl rfl ?_ ?_ ?_
      · exact SR_eq (fun k _ _ => (i17 _ _).trans (y3 0 (by omega) k).1) (fun k _ => (i54 _ _).trans (y3 0 (by omega) k).2) (fun k _ => i95 _) n6 S
      · obtain ⟨nx, c, p1, p2, p3, p4, p5, p6⟩ := C.2.2.2.2.2.2.2.2.1
        refine ⟨nx, c, p1, p2, (Fr_i FF (by rfl)).trans p3, (Fr_i FF (by rfl)).trans p4, (Fr_i FF (by rfl)).trans p5, fun i hi => ?_⟩
        obtain ⟨R1, v1, d1, d2, d3⟩ := p6 i hi
        exact ⟨R1, v1, d1, d2, SR_eq (fun k _ _ => (i17 _ _).trans (y3 _ (by omega) k).1) (fun k _ => (i54 _ _).trans (y3 _ (by omega) k).2) (fun k _ => Fr_i FF (by rfl)) n6 d3⟩
      · intro i hi
        by_cases z : i = j
        · subst z
          refine ⟨1, by decide, ?_, ?_, fun _ => ⟨R, v, C.2.1, C.2.2.1, ?_⟩⟩
          · rw [Fr_i FL (t := 61) (by rfl)]; exact t1
          · rw [Fr_i F5 (t := 108) (by rfl), iu_at]
          · refine SR_eq (fun k hk hk1 => (i17 _ _).trans (y1 k hk hk1)) (fun k hk => (i54 _ _).trans (y2 k hk)) (fun k hk => ?_) n6 S
            rw [m2 k hk, Nat.zero_add]; exact Fr_i F2 (by rfl)
        · obtain ⟨b, d1, d2, d3, d4⟩ := C.2.2.2.2.2.2.2.2.2.1 i hi
          refine ⟨b, d1, ?_, ?_, fun e => ?_⟩
          · rw [Fr_i FL (t := 61) (by rfl), t2 i z]; exact d2
          · rw [Fr_i F5 (t := 108) (by rfl), iu_ne z, Fr_i F2 (t := 108) (by rfl)]; exact d3
          · obtain ⟨R1, v1, f1, f2, f3⟩ := d4 e
            refine ⟨R1, v1, f1, f2, SR_eq (fun k _ _ => (i17 _ _).trans (y3 _ (by omega) k).1) (fun k _ => (i54 _ _).trans (y3 _ (by omega) k).2) (fun k hk => ?_) n6 f3⟩
            rw [m3 _ (by omega)]; exact Fr_i F2 (by rfl)
    exact ⟨m1.trans x1.symm, T, R, v, q, s, C5, Cache_fr FF rfl rfl rfl D⟩
  · refine nothing (a := nN 0) C D ?_ ?_
    · show q_X_hold sc h a = _
      rw [q_X_hold_eq, X_isSlot_f ha]
      simp (disch := omega) only [L_0, L_1, L_2, L_3, L_4, L_5, L_6, L_7, L_8, L_9, L_10, L_11, L_12, L_13, L_14, L_15, L_16, L_17, L_18, L_19, L_20, L_21, L_22, L_23, L_24, L_25, L_26, L_27, L_28, L_29, L_30, L_31, L_32, L_33, L_34, L_35, L_40, L_41, L_42, L_43, L_44, L_45, L_47, L_48, L_50, L_53, L_57, L_59, L_60, L_61, L_63, L_64, L_97, L_100, L_101, L_102, L_103, L_122, L_130, L_216, L_255, L_364, L_400, L_402, L_420, L_728, L_768, L_999, L_1000, L_1093, L_1872, L_2000, L_9999, L_12345, L_252645135, L_858993459, L_1103515245, L_1431655765, Lm_1, Lm_2, Lm_8, N_zero, N_cast, N_add, N_mul, N_sub, N_addM, N_lt_tp, N_lt_fp, N_le_tp, N_le_fp, N_eq_tp, N_eq_fp, MN_ltp, MN_lep, NM_ltp, NM_lep, NM_eqp, MN_eqp, MM_lt_tp, MM_lt_fp, MM_le_tp, MM_le_fp, MM_eq_tp, MM_eq_fp, N_cl, N_in_t, N_in_f, M_in, N_div, N_rem, N_nb0, N_nb1, cond_true, cond_false, Bool.not_true, Bool.not_false, Bool.and_true, Bool.true_and, Bool.and_false, Bool.false_and, decide_true, decide_false, Option.bind_some, Option.bind_none]
    · show q_M_hold sc h a = _
      rw [q_M_hold_eq]
      simp only [L_0, L_1, L_2, L_3, L_4, L_5, L_6, L_7, L_8, L_9, L_10, L_11, L_12, L_13, L_14, L_15, L_16, L_17, L_18, L_19, L_20, L_21, L_22, L_23, L_24, L_25, L_26, L_27, L_28, L_29, L_30, L_31, L_32, L_33, L_34, L_35, L_40, L_41, L_42, L_43, L_44, L_45, L_47, L_48, L_50, L_53, L_57, L_59, L_60, L_61, L_63, L_64, L_97, L_100, L_101, L_102, L_103, L_122, L_130, L_216, L_255, L_364, L_400, L_402, L_420, L_728, L_768, L_999, L_1000, L_1093, L_1872, L_2000, L_9999, L_12345, L_252645135, L_858993459, L_1103515245, L_1431655765, Lm_1, Lm_2, Lm_8]
      rw [M_in_f (by decide) ha]
      simp (disch := omega) only [L_0, L_1, L_2, L_3, L_4, L_5, L_6, L_7, L_8, L_9, L_10, L_11, L_12, L_13, L_14, L_15, L_16, L_17, L_18, L_19, L_20, L_21, L_22, L_23, L_24, L_25, L_26, L_27, L_28, L_29, L_30, L_31, L_32, L_33, L_34, L_35, L_40, L_41, L_42, L_43, L_44, L_45, L_47, L_48, L_50, L_53, L_57, L_59, L_60, L_61, L_63, L_64, L_97, L_100, L_101, L_102, L_103, L_122, L_130, L_216, L_255, L_364, L_400, L_402, L_420, L_728, L_768, L_999, L_1000, L_1093, L_1872, L_2000, L_9999, L_12345, L_252645135, L_858993459, L_1103515245, L_1431655765, Lm_1, Lm_2, Lm_8, N_zero, N_cast, N_add, N_mul, N_sub, N_addM, N_lt_tp, N_lt_fp, N_le_tp, N_le_fp, N_eq_tp, N_eq_fp, MN_ltp, MN_lep, NM_ltp, NM_lep, NM_eqp, MN_eqp, MM_lt_tp, MM_lt_fp, MM_le_tp, MM_le_fp, MM_eq_tp, MM_eq_fp, N_cl, N_in_t, N_in_f, M_in, N_div, N_rem, N_nb0, N_nb1, cond_true, cond_false, Bool.not_true, Bool.not_false, Bool.and_true, Bool.true_and, Bool.and_false, Bool.false_and, decide_true, decide_false, Option.bind_some, Option.bind_none]
theorem c_restore {h : wb_H} (I : Inv h B) (a : Int32) : Same (fun h => q_X_restore sc h a) (fun h => q_M_restore sc h a) h B := by
  obtain ⟨T, R, v, q, s, C, D⟩ := I
  have n6 := C.1.1
  by_cases ha : hsP (2 + 1) a
  · obtain ⟨j, hj, rfl⟩ := ha
    obtain ⟨b, d1, d2, d3, d4⟩ := C.2.2.2.2.2.2.2.2.2.1 j hj
    by_cases hb : b = 1
    · subst hb
      obtain ⟨R0, v0, f1, f2, f3⟩ := d4 rfl
      have hX : Ok (q_X_restore sc h (nN j)) (fun r => r.1 = nN 1 ∧ Fr [17, 54, 9002, 62, 2014, 2015] h r.2 ∧ r.2.1 20 0 15 = nN 0 ∧ r.2.1 20 0 14 = nM 1 ∧ (∀ l, l < 64 → r.2.1 62 0 l = nM 1) ∧ r.2.1 14 0 2 = nN 0 ∧ (∀ k, k < 8 → 1 ≤ k → r.2.1 17 0 k = h.1 17 (41 + j) k) ∧ (∀ k, k < 30 → r.2.1 54 0 k = h.1 54 (41 + j) k) ∧ (∀ o, o ≠ 0 → ∀ k, r.2.1 17 o k = h.1 17 o k ∧ r.2.1 54 o k = h.1 54 o k)) := by
        rw [q_X_restore_eq, X_isSlot_t (by omega)]
        simp (disch := omega) only [L_0, L_1, L_2, L_3, L_4, L_5, L_6, L_7, L_8, L_9, L_10, L_11, L_12, L_13, L_14, L_15, L_16, L_17, L_18, L_19, L_20, L_21, L_22, L_23, L_24, L_25, L_26, L_27, L_28, L_29, L_30, L_31, L_32, L_33, L_34, L_35, L_40, L_41, L_42, L_43, L_44, L_45, L_47, L_48, L_50, L_53, L_57, L_59, L_60, L_61, L_63, L_64, L_97, L_100, L_101, L_102, L_103, L_122, L_130, L_216, L_255, L_364, L_400, L_402, L_420, L_728, L_768, L_999, L_1000, L_1093, L_1872, L_2000, L_9999, L_12345, L_252645135, L_858993459, L_1103515245, L_1431655765, Lm_1, Lm_2, Lm_8, N_zero, N_cast, N_add, N_mul, N_sub, N_addM, N_lt_tp, N_lt_fp, N_le_tp, N_le_fp, N_eq_tp, N_eq_fp, MN_ltp, MN_lep, NM_ltp, NM_lep, NM_eqp, MN_eqp, MM_lt_tp, MM_lt_fp, MM_le_tp, MM_le_fp, MM_eq_tp, MM_eq_fp, N_cl, N_in_t, N_in_f, M_in, N_div, N_rem, N_nb0, N_nb1, cond_true, cond_false, Bool.not_true, Bool.not_false, Bool.and_true, Bool.true_and, Bool.and_false, Bool.false_and, decide_true, decide_false, Option.bind_some, Option.bind_none, d2]
        refine Ok_bind (X_copy (d := 0) (o := 41 + j) (by decide) (by omega) (by omega) f3.2.2.2.2.2.2.1) ?_
        rintro h2 ⟨F2, c1, c2, c3⟩
        rw [q_Past_clear_eq]
        simp only [Option.bind_some, L_0, L_1, L_2, L_3, L_4, L_5, L_6, L_7, L_8, L_9, L_10, L_11, L_12, L_13, L_14, L_15, L_16, L_17, L_18, L_19, L_20, L_21, L_22, L_23, L_24, L_25, L_26, L_27, L_28, L_29, L_30, L_31, L_32, L_33, L_34, L_35, L_40, L_41, L_42, L_43, L_44, L_45, L_47, L_48, L_50, L_53, L_57, L_59, L_60, L_61, L_63, L_64, L_97, L_100, L_101, L_102, L_103, L_122, L_130, L_216, L_255, L_364, L_400, L_402, L_420, L_728, L_768, L_999, L_1000, L_1093, L_1872, L_2000, L_9999, L_12345, L_252645135, L_858993459, L_1103515245, L_1431655765, Lm_1, Lm_2, Lm_8]
        refine Ok_bind X_forgetA ?_
        rintro h3 ⟨F3, w1, w2, w3⟩
        have f17 : ∀ o k, h3.1 17 o k = h2.1 17 o k := fun o k => (Fr_i F3 (by rfl)).trans (iu_nt (by decide))
        have f54 : ∀ o k, h3.1 54 o k = h2.1 54 o k := fun o k => (Fr_i F3 (by rfl)).trans (iu_nt (by decide))
        have F4 : Fr [9002] h2 (wb_iu h2 14 0 2 (nN 0)) := Fr_iu rfl
        refine Ok_some ⟨rfl, Fr_trans (Fr_mono F2 rfl) (Fr_trans (Fr_mono F4 rfl) (Fr_mono F3 rfl)), w1, w2, w3, ?_, fun k hk hk1 => ?_, fun k hk => ?_, fun o ho k => ⟨?_, ?_⟩⟩
        · rw [Fr_i F3 (t := 14) (by rfl), iu_at]
        · rw [f17]; exact c1 k hk hk1
        · rw [f54]; exact c2 k hk
        · rw [f17]; exact (c3 o ho k).1
        · rw [f54]; exact (c3 o ho k).2
      refine Ok_w hX ?_
      rintro ⟨x, h2⟩ ⟨x1, F2, w1, w2, w3, t2, y1, y2, y3⟩
      simp only at x1 F2 w1 w2 w3 t2 y1 y2 y3 ⊢
      have d3' : h2.1 108 0 j = nN 1 := (Fr_i F2 (by rfl)).trans d3
      rw [q_M_restore_eq]
      simp only [L_0, L_1, L_2, L_3, L_4, L_5, L_6, L_7, L_8, L_9, L_10, L_11, L_12, L_13, L_14, L_15, L_16, L_17, L_18, L_19, L_20, L_21, L_22, L_23, L_24, L_25, L_26, L_27, L_28, L_29, L_30, L_31, L_32, L_33, L_34, L_35, L_40, L_41, L_42, L_43, L_44, L_45, L_47, L_48, L_50, L_53, L_57, L_59, L_60, L_61, L_63, L_64, L_97, L_100, L_101, L_102, L_103, L_122, L_130, L_216, L_255, L_364, L_400, L_402, L_420, L_728, L_768, L_999, L_1000, L_1093, L_1872, L_2000, L_9999, L_12345, L_252645135, L_858993459, L_1103515245, L_1431655765, Lm_1, Lm_2, Lm_8]
      rw [M_in_t (by omega) (by decide)]
      simp (disch := omega) only [L_0, L_1, L_2, L_3, L_4, L_5, L_6, L_7, L_8, L_9, L_10, L_11, L_12, L_13, L_14, L_15, L_16, L_17, L_18, L_19, L_20, L_21, L_22, L_23, L_24, L_25, L_26, L_27, L_28, L_29, L_30, L_31, L_32, L_33, L_34, L_35, L_40, L_41, L_42, L_43, L_44, L_45, L_47, L_48, L_50, L_53, L_57, L_59, L_60, L_61, L_63, L_64, L_97, L_100, L_101, L_102, L_103, L_122, L_130, L_216, L_255, L_364, L_400, L_402, L_420, L_728, L_768, L_999, L_1000, L_1093, L_1872, L_2000, L_9999, L_12345, L_252645135, L_858993459, L_1103515245, L_1431655765, Lm_1, Lm_2, Lm_8, N_zero, N_cast, N_add, N_mul, N_sub, N_addM, N_lt_tp, N_lt_fp, N_le_tp, N_le_fp, N_eq_tp, N_eq_fp, MN_ltp, MN_lep, NM_ltp, NM_lep, NM_eqp, MN_eqp, MM_lt_tp, MM_lt_fp, MM_le_tp, MM_le_fp, MM_eq_tp, MM_eq_fp, N_cl, N_in_t, N_in_f, M_in, N_div, N_rem, N_nb0, N_nb1, cond_true, cond_false, Bool.not_true, Bool.not_false, Bool.and_true, Bool.true_and, Bool.and_false, Bool.false_and, decide_true, decide_false, Option.bind_some, Option.bind_none, d3']
      have key : ∀ m i, i + m = 48 → ∀ h', Fr [95] h2 h' → (∀ k, k < i → h'.1 95 0 k = h2.1 109 0 (48 * j + k)) → Ok (q_M_restore_L22 sc h' (nN j) (nN i)) (fun r => r.1 = nN 1 ∧ Fr [95, 1054] h2 r.2 ∧ (∀ k, k < 48 → r.2.1 95 0 k = h2.1 109 0 (48 * j + k)) ∧ r.2.1 21 0 54 = nN 0) := by
        intro m
        induction m with
        | zero =>
          intro i hi h' F g1
          rw [q_M_restore_L22_eq]
          simp (disch := omega) only [L_0, L_1, L_2, L_3, L_4, L_5, L_6, L_7, L_8, L_9, L_10, L_11, L_12, L_13, L_14, L_15, L_16, L_17, L_18, L_19, L_20, L_21, L_22, L_23, L_24, L_25, L_26, L_27, L_28, L_29, L_30, L_31, L_32, L_33, L_34, L_35, L_40, L_41, L_42, L_43, L_44, L_45, L_47, L_48, L_50, L_53, L_57, L_59, L_60, L_61, L_63, L_64, L_97, L_100, L_101, L_102, L_103, L_122, L_130, L_216, L_255, L_364, L_400, L_402, L_420, L_728, L_768, L_999, L_1000, L_1093, L_1872, L_2000, L_9999, L_12345, L_252645135, L_858993459, L_1103515245, L_1431655765, Lm_1, Lm_2, Lm_8, N_zero, N_cast, N_add, N_mul, N_sub, N_addM, N_lt_tp, N_lt_fp, N_le_tp, N_le_fp, N_eq_tp, N_eq_fp, MN_ltp, MN_lep, NM_ltp, NM_lep, NM_eqp, MN_eqp, MM_lt_tp, MM_lt_fp, MM_le_tp, MM_le_fp, MM_eq_tp, MM_eq_fp, N_cl, N_in_t, N_in_f, M_in, N_div, N_rem, N_nb0, N_nb1, cond_true, cond_false, Bool.not_true, Bool.not_false, Bool.and_true, Bool.true_and, Bool.and_false, Bool.false_and, decide_true, decide_false, Option.bind_some, Option.bind_none]
          refine Ok_some ⟨rfl, Fr_trans (Fr_mono F rfl) (Fr_iu rfl), fun k hk => ?_, iu_at⟩
          rw [iu_nt (by decide)]; exact g1 k (by omega)
        | succ m ih =>
          intro i hi h' F g1
          have e : h'.1 109 0 (48 * j + i) = h2.1 109 0 (48 * j + i) := Fr_i F (by rfl)
          rw [q_M_restore_L22_eq]
          simp (disch := omega) only [L_0, L_1, L_2, L_3, L_4, L_5, L_6, L_7, L_8, L_9, L_10, L_11, L_12, L_13, L_14, L_15, L_16, L_17, L_18, L_19, L_20, L_21, L_22, L_23, L_24, L_25, L_26, L_27, L_28, L_29, L_30, L_31, L_32, L_33, L_34, L_35, L_40, L_41, L_42, L_43, L_44, L_45, L_47, L_48, L_50, L_53, L_57, L_59, L_60, L_61, L_63, L_64, L_97, L_100, L_101, L_102, L_103, L_122, L_130, L_216, L_255, L_364, L_400, L_402, L_420, L_728, L_768, L_999, L_1000, L_1093, L_1872, L_2000, L_9999, L_12345, L_252645135, L_858993459, L_1103515245, L_1431655765, Lm_1, Lm_2, Lm_8, N_zero, N_cast, N_add, N_mul, N_sub, N_addM, N_lt_tp, N_lt_fp, N_le_tp, N_le_fp, N_eq_tp, N_eq_fp, MN_ltp, MN_lep, NM_ltp, NM_lep, NM_eqp, MN_eqp, MM_lt_tp, MM_lt_fp, MM_le_tp, MM_le_fp, MM_eq_tp, MM_eq_fp, N_cl, N_in_t, N_in_f, M_in, N_div, N_rem, N_nb0, N_nb1, cond_true, cond_false, Bool.not_true, Bool.not_false, Bool.and_true, Bool.true_and, Bool.and_false, Bool.false_and, decide_true, decide_false, Option.bind_some, Option.bind_none, e]
          refine ih (i + 1) (by omega) _ (Fr_trans F (Fr_iu rfl)) (fun k hk => ?_)
          by_cases z : k = i
          · rw [z, iu_at]
          · rw [iu_ne z]; exact g1 k (by omega)
      refine Ok_w (key 48 0 rfl h2 (Fr_refl _ _) (fun k hk => by omega)) ?_
      rintro ⟨y, h5⟩ ⟨m1, F5, m2, m3⟩
      simp only at m1 F5 m2 m3 ⊢
      have FF : Fr [17, 54, 9002, 62, 2014, 2015, 95, 1054] h h5 := Fr_trans (Fr_mono F2 rfl) (Fr_mono F5 rfl)
      have i17 : ∀ o k, h5.1 17 o k = h2.1 17 o k := fun o k => Fr_i F5 (by rfl)
      have i54 : ∀ o k, h5.1 54 o k = h2.1 54 o k := fun o k => Fr_i F5 (by rfl)
      have C5 : Core h5 T R0 v0 q s B := by
        refine Core_std C f1 f2 FF rfl rfl rfl rfl ?_ ?_ ?_
        · refine SR_eq (fun k hk hk1 => (i17 _ _).trans (y1 k hk hk1)) (fun k hk => (i54 _ _).trans (y2 k hk)) (fun k hk => ?_) n6 f3
          rw [Nat.zero_add, m2 k hk]; exact Fr_i F2 (by rfl)
        · obtain ⟨nx, c, p1, p2, p3, p4, p5, p6⟩ := C.2.2.2.2.2.2.2.2.1
          exact ⟨nx, 0, p1, by decide, (Fr_i FF (by rfl)).trans p3, (Fr_i F5 (by rfl)).trans t2, m3, fun i hi => absurd hi (Nat.not_lt_zero _)⟩
        · intro i hi
          obtain ⟨b, e1, e2, e3, e4⟩ := C.2.2.2.2.2.2.2.2.2.1 i hi
          refine ⟨b, e1, (Fr_i FF (by rfl)).trans e2, (Fr_i FF (by rfl)).trans e3, fun e => ?_⟩
          obtain ⟨R1, v1, z1, z2, z3⟩ := e4 e
          exact ⟨R1, v1, z1, z2, SR_eq (fun k _ _ => (i17 _ _).trans (y3 _ (by omega) k).1) (fun k _ => (i54 _ _).trans (y3 _ (by omega) k).2) (fun k hk => Fr_i FF (by rfl)) n6 z3⟩
      refine ⟨m1.trans x1.symm, T, R0, v0, q, s, C5, Cache_new n6 ?_ ?_ fun l hl => ?_⟩
      · rw [Fr_i F5 (t := 20) (by rfl)]; exact w1
      · rw [Fr_i F5 (t := 20) (by rfl)]; exact w2
      · rw [Fr_i F5 (t := 62) (by rfl)]; exact w3 l hl
    · have b0 : b = 0 := by omega
      subst b0
      refine nothing (a := nN 0) C D ?_ ?_
      · show q_X_restore sc h (nN j) = _
        rw [q_X_restore_eq, X_isSlot_t (by omega)]
        simp (disch := omega) only [L_0, L_1, L_2, L_3, L_4, L_5, L_6, L_7, L_8, L_9, L_10, L_11, L_12, L_13, L_14, L_15, L_16, L_17, L_18, L_19, L_20, L_21, L_22, L_23, L_24, L_25, L_26, L_27, L_28, L_29, L_30, L_31, L_32, L_33, L_34, L_35, L_40, L_41, L_42, L_43, L_44, L_45, L_47, L_48, L_50, L_53, L_57, L_59, L_60, L_61, L_63, L_64, L_97, L_100, L_101, L_102, L_103, L_122, L_130, L_216, L_255, L_364, L_400, L_402, L_420, L_728, L_768, L_999, L_1000, L_1093, L_1872, L_2000, L_9999, L_12345, L_252645135, L_858993459, L_1103515245, L_1431655765, Lm_1, Lm_2, Lm_8, N_zero, N_cast, N_add, N_mul, N_sub, N_addM, N_lt_tp, N_lt_fp, N_le_tp, N_le_fp, N_eq_tp, N_eq_fp, MN_ltp, MN_lep, NM_ltp, NM_lep, NM_eqp, MN_eqp, MM_lt_tp, MM_lt_fp, MM_le_tp, MM_le_fp, MM_eq_tp, MM_eq_fp, N_cl, N_in_t, N_in_f, M_in, N_div, N_rem, N_nb0, N_nb1, cond_true, cond_false, Bool.not_true, Bool.not_false, Bool.and_true, Bool.true_and, Bool.and_false, Bool.false_and, decide_true, decide_false, Option.bind_some, Option.bind_none, d2]
      · show q_M_restore sc h (nN j) = _
        rw [q_M_restore_eq]
        simp only [L_0, L_1, L_2, L_3, L_4, L_5, L_6, L_7, L_8, L_9, L_10, L_11, L_12, L_13, L_14, L_15, L_16, L_17, L_18, L_19, L_20, L_21, L_22, L_23, L_24, L_25, L_26, L_27, L_28, L_29, L_30, L_31, L_32, L_33, L_34, L_35, L_40, L_41, L_42, L_43, L_44, L_45, L_47, L_48, L_50, L_53, L_57, L_59, L_60, L_61, L_63, L_64, L_97, L_100, L_101, L_102, L_103, L_122, L_130, L_216, L_255, L_364, L_400, L_402, L_420, L_728, L_768, L_999, L_1000, L_1093, L_1872, L_2000, L_9999, L_12345, L_252645135, L_858993459, L_1103515245, L_1431655765, Lm_1, Lm_2, Lm_8]
        rw [M_in_t (by omega) (by decide)]
        simp (disch := omega) only [L_0, L_1, L_2, L_3, L_4, L_5, L_6, L_7, L_8, L_9, L_10, L_11, L_12, L_13, L_14, L_15, L_16, L_17, L_18, L_19, L_20, L_21, L_22, L_23, L_24, L_25, L_26, L_27, L_28, L_29, L_30, L_31, L_32, L_33, L_34, L_35, L_40, L_41, L_42, L_43, L_44, L_45, L_47, L_48, L_50, L_53, L_57, L_59, L_60, L_61, L_63, L_64, L_97, L_100, L_101, L_102, L_103, L_122, L_130, L_216, L_255, L_364, L_400, L_402, L_420, L_728, L_768, L_999, L_1000, L_1093, L_1872, L_2000, L_9999, L_12345, L_252645135, L_858993459, L_1103515245, L_1431655765, Lm_1, Lm_2, Lm_8, N_zero, N_cast, N_add, N_mul, N_sub, N_addM, N_lt_tp, N_lt_fp, N_le_tp, N_le_fp, N_eq_tp, N_eq_fp, MN_ltp, MN_lep, NM_ltp, NM_lep, NM_eqp, MN_eqp, MM_lt_tp, MM_lt_fp, MM_le_tp, MM_le_fp, MM_eq_tp, MM_eq_fp, N_cl, N_in_t, N_in_f, M_in, N_div, N_rem, N_nb0, N_nb1, cond_true, cond_false, Bool.not_true, Bool.not_false, Bool.and_true, Bool.true_and, Bool.and_false, Bool.false_and, decide_true, decide_false, Option.bind_some, Option.bind_none, d3]
  · refine nothing (a := nN 0) C D ?_ ?_
    · show q_X_restore sc h a = _
      rw [q_X_restore_eq, X_isSlot_f ha]
      simp (disch := omega) only [L_0, L_1, L_2, L_3, L_4, L_5, L_6, L_7, L_8, L_9, L_10, L_11, L_12, L_13, L_14, L_15, L_16, L_17, L_18, L_19, L_20, L_21, L_22, L_23, L_24, L_25, L_26, L_27, L_28, L_29, L_30, L_31, L_32, L_33, L_34, L_35, L_40, L_41, L_42, L_43, L_44, L_45, L_47, L_48, L_50, L_53, L_57, L_59, L_60, L_61, L_63, L_64, L_97, L_100, L_101, L_102, L_103, L_122, L_130, L_216, L_255, L_364, L_400, L_402, L_420, L_728, L_768, L_999, L_1000, L_1093, L_1872, L_2000, L_9999, L_12345, L_252645135, L_858993459, L_1103515245, L_1431655765, Lm_1, Lm_2, Lm_8, N_zero, N_cast, N_add, N_mul, N_sub, N_addM, N_lt_tp, N_lt_fp, N_le_tp, N_le_fp, N_eq_tp, N_eq_fp, MN_ltp, MN_lep, NM_ltp, NM_lep, NM_eqp, MN_eqp, MM_lt_tp, MM_lt_fp, MM_le_tp, MM_le_fp, MM_eq_tp, MM_eq_fp, N_cl, N_in_t, N_in_f, M_in, N_div, N_rem, N_nb0, N_nb1, cond_true, cond_false, Bool.not_true, Bool.not_false, Bool.and_true, Bool.true_and, Bool.and_false, Bool.false_and, decide_true, decide_false, Option.bind_some, Option.bind_none]
    · show q_M_restore sc h a = _
      rw [q_M_restore_eq]
      simp only [L_0, L_1, L_2, L_3, L_4, L_5, L_6, L_7, L_8, L_9, L_10, L_11, L_12, L_13, L_14, L_15, L_16, L_17, L_18, L_19, L_20, L_21, L_22, L_23, L_24, L_25, L_26, L_27, L_28, L_29, L_30, L_31, L_32, L_33, L_34, L_35, L_40, L_41, L_42, L_43, L_44, L_45, L_47, L_48, L_50, L_53, L_57, L_59, L_60, L_61, L_63, L_64, L_97, L_100, L_101, L_102, L_103, L_122, L_130, L_216, L_255, L_364, L_400, L_402, L_420, L_728, L_768, L_999, L_1000, L_1093, L_1872, L_2000, L_9999, L_12345, L_252645135, L_858993459, L_1103515245, L_1431655765, Lm_1, Lm_2, Lm_8]
      rw [M_in_f (by decide) ha]
      simp (disch := omega) only [L_0, L_1, L_2, L_3, L_4, L_5, L_6, L_7, L_8, L_9, L_10, L_11, L_12, L_13, L_14, L_15, L_16, L_17, L_18, L_19, L_20, L_21, L_22, L_23, L_24, L_25, L_26, L_27, L_28, L_29, L_30, L_31, L_32, L_33, L_34, L_35, L_40, L_41, L_42, L_43, L_44, L_45, L_47, L_48, L_50, L_53, L_57, L_59, L_60, L_61, L_63, L_64, L_97, L_100, L_101, L_102, L_103, L_122, L_130, L_216, L_255, L_364, L_400, L_402, L_420, L_728, L_768, L_999, L_1000, L_1093, L_1872, L_2000, L_9999, L_12345, L_252645135, L_858993459, L_1103515245, L_1431655765, Lm_1, Lm_2, Lm_8, N_zero, N_cast, N_add, N_mul, N_sub, N_addM, N_lt_tp, N_lt_fp, N_le_tp, N_le_fp, N_eq_tp, N_eq_fp, MN_ltp, MN_lep, NM_ltp, NM_lep, NM_eqp, MN_eqp, MM_lt_tp, MM_lt_fp, MM_le_tp, MM_le_fp, MM_eq_tp, MM_eq_fp, N_cl, N_in_t, N_in_f, M_in, N_div, N_rem, N_nb0, N_nb1, cond_true, cond_false, Bool.not_true, Bool.not_false, Bool.and_true, Bool.true_and, Bool.and_false, Bool.false_and, decide_true, decide_false, Option.bind_some, Option.bind_none]
end
