/-! What the calls share. -/
theorem rwith_self (R : wR) : rwith R (rlf R) 0 = R := by
  have e : (fun i => if tb 0 i = 1 then 0 else rov R i) = rov R := by
    funext i
    have : tb 0 i = 0 := by unfold tb; rw [Nat.zero_div]
    rw [this, if_neg (by decide)]
  unfold rwith
  rw [e]
  rfl
theorem Row_copy {h h' : wb_H} {t t' f f' : Nat} {T : wT} {R : wR} (n6 : tn T ≤ 6) (c : ∀ k, k < 48 → h'.1 t' 0 (f' + k) = h.1 t 0 (f + k)) (H : Row h t f T R) : Row h' t' f' T R := by
  obtain ⟨r1, r2, r3⟩ := H
  refine ⟨fun i hi => (c _ (by omega)).trans (r1 i hi), fun i hi => ?_, (c _ (by decide)).trans r3⟩
  rw [Nat.add_assoc, c _ (by omega), ← Nat.add_assoc]
  exact r2 i hi
theorem fr0 (b g : Nat) (a a' : Int) (h : a = a') : fr a b g = fr a' b g := by rw [h]
section
variable {sc : wb_X} {T : wT} {R : wR} {v q s B : Nat}
theorem M_copies_L {h0 : wb_H} (hs : s ≤ 1) (hl : h0.1 21 0 18 = nN s) : ∀ k j, j + k = 48 → ∀ h, Fr [96] h0 h → (∀ i, i < j → h.1 96 0 i = h0.1 95 0 i) → Ok (q_M_copies_L2 sc h (nN j)) (fun h' => Fr [96, 1049, 1050] h0 h' ∧ (∀ i, i < 48 → h'.1 96 0 i = h0.1 95 0 i) ∧ h'.1 21 0 49 = h0.1 84 0 s ∧ h'.1 21 0 50 = nN 0) := by
  intro k
  induction k with
  | zero =>
    intro j hj h F g
    have l1 : h.1 21 0 18 = nN s := (Fr_i F (by rfl)).trans hl
    have l2 : h.1 84 0 s = h0.1 84 0 s := Fr_i F (by rfl)
    rw [q_M_copies_L2_eq, q_M_plainly_eq]
    simp (disch := omega) only [L_0, L_1, L_2, L_3, L_4, L_5, L_6, L_7, L_8, L_9, L_10, L_11, L_12, L_13, L_14, L_15, L_16, L_17, L_18, L_19, L_20, L_21, L_22, L_23, L_24, L_25, L_26, L_27, L_28, L_29, L_30, L_31, L_32, L_33, L_34, L_35, L_40, L_41, L_42, L_43, L_44, L_45, L_47, L_48, L_50, L_53, L_57, L_59, L_60, L_61, L_63, L_64, L_97, L_100, L_101, L_102, L_103, L_122, L_130, L_216, L_255, L_364, L_400, L_402, L_420, L_728, L_768, L_999, L_1000, L_1093, L_1872, L_2000, L_9999, L_12345, L_252645135, L_858993459, L_1103515245, L_1431655765, Lm_1, Lm_2, Lm_8, N_zero, N_cast, N_add, N_mul, N_sub, N_addM, N_lt_tp, N_lt_fp, N_le_tp, N_le_fp, N_eq_tp, N_eq_fp, MN_ltp, MN_lep, NM_ltp, NM_lep, NM_eqp, MN_eqp, MM_lt_tp, MM_lt_fp, MM_le_tp, MM_le_fp, MM_eq_tp, MM_eq_fp, N_cl, N_in_t, N_in_f, M_in, N_div, N_rem, N_nb0, N_nb1, cond_true, cond_false, Bool.not_true, Bool.not_false, Bool.and_true, Bool.true_and, Bool.and_false, Bool.false_and, decide_true, decide_false, Option.bind_some, Option.bind_none, l1, l2]
    refine Ok_some ⟨Fr_trans (Fr_mono F rfl) (Fr_trans (Fr_iu rfl) (Fr_iu rfl)), fun i hi => ?_, ?_, ?_⟩
    · rw [iu_nt (by decide), iu_nt (by decide)]; exact g i (by omega)
    · rw [iu_ne (by decide), iu_at]
    · rw [iu_at]
  | succ k ih =>
    intro j hj h F g
    have l2 : h.1 95 0 j = h0.1 95 0 j := Fr_i F (by rfl)
    rw [q_M_copies_L2_eq]
    simp (disch := omega) only [L_0, L_1, L_2, L_3, L_4, L_5, L_6, L_7, L_8, L_9, L_10, L_11, L_12, L_13, L_14, L_15, L_16, L_17, L_18, L_19, L_20, L_21, L_22, L_23, L_24, L_25, L_26, L_27, L_28, L_29, L_30, L_31, L_32, L_33, L_34, L_35, L_40, L_41, L_42, L_43, L_44, L_45, L_47, L_48, L_50, L_53, L_57, L_59, L_60, L_61, L_63, L_64, L_97, L_100, L_101, L_102, L_103, L_122, L_130, L_216, L_255, L_364, L_400, L_402, L_420, L_728, L_768, L_999, L_1000, L_1093, L_1872, L_2000, L_9999, L_12345, L_252645135, L_858993459, L_1103515245, L_1431655765, Lm_1, Lm_2, Lm_8, N_zero, N_cast, N_add, N_mul, N_sub, N_addM, N_lt_tp, N_lt_fp, N_le_tp, N_le_fp, N_eq_tp, N_eq_fp, MN_ltp, MN_lep, NM_ltp, NM_lep, NM_eqp, MN_eqp, MM_lt_tp, MM_lt_fp, MM_le_tp, MM_le_fp, MM_eq_tp, MM_eq_fp, N_cl, N_in_t, N_in_f, M_in, N_div, N_rem, N_nb0, N_nb1, cond_true, cond_false, Bool.not_true, Bool.not_false, Bool.and_true, Bool.true_and, Bool.and_false, Bool.false_and, decide_true, decide_false, Option.bind_some, Option.bind_none, l2]
    refine ih (j + 1) (by omega) _ (Fr_trans F (Fr_iu rfl)) fun i hi => ?_
    by_cases e : i = j
    · rw [e, iu_at]
    · rw [iu_ne e]; exact g i (by omega)
theorem M_copies {h : wb_H} (C : Core h T R v q s B) : Ok (q_M_copies sc h) (fun h' => Fr [96, 1049, 1050] h h' ∧ (∀ i, i < 48 → h'.1 96 0 i = h.1 95 0 i) ∧ h'.1 21 0 49 = nN (tS T) ∧ h'.1 21 0 50 = nN 0) := by
  have M := C.2.2.2.2.1
  rw [q_M_copies_eq]
  simp only [L_0, L_1, L_2, L_3, L_4, L_5, L_6, L_7, L_8, L_9, L_10, L_11, L_12, L_13, L_14, L_15, L_16, L_17, L_18, L_19, L_20, L_21, L_22, L_23, L_24, L_25, L_26, L_27, L_28, L_29, L_30, L_31, L_32, L_33, L_34, L_35, L_40, L_41, L_42, L_43, L_44, L_45, L_47, L_48, L_50, L_53, L_57, L_59, L_60, L_61, L_63, L_64, L_97, L_100, L_101, L_102, L_103, L_122, L_130, L_216, L_255, L_364, L_400, L_402, L_420, L_728, L_768, L_999, L_1000, L_1093, L_1872, L_2000, L_9999, L_12345, L_252645135, L_858993459, L_1103515245, L_1431655765, Lm_1, Lm_2, Lm_8]
  refine Ok_w (M_copies_L M.1 M.2.1 48 0 rfl h (Fr_refl _ _) (fun i hi => by omega)) ?_
  rintro h' ⟨a, b, c, d⟩
  exact ⟨a, b, c.trans M.2.2.2.2.2.2.2.1, d⟩
theorem MA_now {h h' : wb_H} {L : List Nat} (C : Core h T R v q s B) (F : Fr L h h') (d1 : wb_dj TT1 L = true) (d2 : wb_dj TT2 L = true) {R' : wR} (hR : R_ok T R') (H : Row h' 96 0 T R') : MA h' s (rlf R') (mkA T R') := MA_mk C.1 hR (MT_fr F d1 d2 C.2.2.2.2.1) H
theorem Row_now {h h' : wb_H} (C : Core h T R v q s B) (g : ∀ i, i < 48 → h'.1 96 0 i = h.1 95 0 i) : Row h' 96 0 T R := Row_copy C.1.1 (fun k hk => by rw [Nat.zero_add]; exact g k hk) C.2.2.2.2.2.2.2.1.2.1
theorem M_lays {h : wb_H} (C : Core h T R v q s B) : Ok (q_M_lays sc h) (fun h' => Fr MQQ h h' ∧ MA h' s (rlf R) (mkA T R) ∧ fO h' (mkA T R) 0 ∧ (∀ i, i < 48 → h'.1 96 0 i = h.1 95 0 i) ∧ h'.1 21 0 49 = nN (tS T)) := by
  rw [q_M_lays_eq]
  refine Ok_bind (M_copies C) ?_
  rintro h1 ⟨F1, g1, g2, g3⟩
  have A1 := MA_now C F1 rfl rfl C.2.1 (Row_now C g1)
  refine Ok_bind (M_fillsOut (mkA_ok C.1 C.2.1) A1 (Nat.zero_le _) g3) ?_
  rintro h2 ⟨F2, O2⟩
  refine Ok_some ⟨Fr_trans (Fr_mono F1 rfl) (Fr_mono F2 rfl), MA_fr F2 rfl A1, O2, fun i hi => (Fr_i F2 (by rfl)).trans (g1 i hi), (Fr_i F2 (by rfl)).trans g2⟩
theorem X_ptr {h : wb_H} (C : Core h T R v q s B) : h.2.2 20 0 2 = q + 1 ∧ q < 2 := ⟨C.2.2.2.2.2.1, C.2.2.2.1.1⟩
def hsP (n : Nat) (a : Int32) : Prop := ∃ i, i < n ∧ a = nN i
theorem X_isHouse_t {h : wb_H} (C : Core h T R v q s B) {i : Nat} (hi : i < tn T) : q_X_isHouse sc h (nN i) = some (nN 1, h) := by
  obtain ⟨e1, e2⟩ := X_ptr C
  have n6 := C.1.1
  have g1 : decide (0 < q + 1) = true := decide_eq_true (by omega)
  have g3 : decide (q < 2) = true := decide_eq_true e2
  have f := C.2.2.2.1.2.1
  rw [q_X_isHouse_eq]
  simp (disch := omega) only [L_0, L_1, L_2, L_3, L_4, L_5, L_6, L_7, L_8, L_9, L_10, L_11, L_12, L_13, L_14, L_15, L_16, L_17, L_18, L_19, L_20, L_21, L_22, L_23, L_24, L_25, L_26, L_27, L_28, L_29, L_30, L_31, L_32, L_33, L_34, L_35, L_40, L_41, L_42, L_43, L_44, L_45, L_47, L_48, L_50, L_53, L_57, L_59, L_60, L_61, L_63, L_64, L_97, L_100, L_101, L_102, L_103, L_122, L_130, L_216, L_255, L_364, L_400, L_402, L_420, L_728, L_768, L_999, L_1000, L_1093, L_1872, L_2000, L_9999, L_12345, L_252645135, L_858993459, L_1103515245, L_1431655765, Lm_1, Lm_2, Lm_8, N_zero, N_cast, N_add, N_mul, N_sub, N_addM, N_lt_tp, N_lt_fp, N_le_tp, N_le_fp, N_eq_tp, N_eq_fp, MN_ltp, MN_lep, NM_ltp, NM_lep, NM_eqp, MN_eqp, MM_lt_tp, MM_lt_fp, MM_le_tp, MM_le_fp, MM_eq_tp, MM_eq_fp, N_cl, N_in_t, N_in_f, M_in, N_div, N_rem, N_nb0, N_nb1, cond_true, cond_false, Bool.not_true, Bool.not_false, Bool.and_true, Bool.true_and, Bool.and_false, Bool.false_and, decide_true, decide_false, Option.bind_some, Option.bind_none, e1, Nat.add_sub_cancel, g1, g3, f]
theorem X_isHouse_f {h : wb_H} (C : Core h T R v q s B) {a : Int32} (ha : ¬ hsP (tn T) a) : q_X_isHouse sc h a = some (nN 0, h) := by
  obtain ⟨e1, e2⟩ := X_ptr C
  have n6 := C.1.1
  have g1 : decide (0 < q + 1) = true := decide_eq_true (by omega)
  have g3 : decide (q < 2) = true := decide_eq_true e2
  have f := C.2.2.2.1.2.1
  rw [q_X_isHouse_eq]
  rcases NM_all a with ⟨k, rfl, hk⟩ | ⟨k, rfl, hk1, hk2⟩
  · have : ¬ k < tn T := fun t => ha ⟨k, t, rfl⟩
    simp (disch := omega) only [L_0, L_1, L_2, L_3, L_4, L_5, L_6, L_7, L_8, L_9, L_10, L_11, L_12, L_13, L_14, L_15, L_16, L_17, L_18, L_19, L_20, L_21, L_22, L_23, L_24, L_25, L_26, L_27, L_28, L_29, L_30, L_31, L_32, L_33, L_34, L_35, L_40, L_41, L_42, L_43, L_44, L_45, L_47, L_48, L_50, L_53, L_57, L_59, L_60, L_61, L_63, L_64, L_97, L_100, L_101, L_102, L_103, L_122, L_130, L_216, L_255, L_364, L_400, L_402, L_420, L_728, L_768, L_999, L_1000, L_1093, L_1872, L_2000, L_9999, L_12345, L_252645135, L_858993459, L_1103515245, L_1431655765, Lm_1, Lm_2, Lm_8, N_zero, N_cast, N_add, N_mul, N_sub, N_addM, N_lt_tp, N_lt_fp, N_le_tp, N_le_fp, N_eq_tp, N_eq_fp, MN_ltp, MN_lep, NM_ltp, NM_lep, NM_eqp, MN_eqp, MM_lt_tp, MM_lt_fp, MM_le_tp, MM_le_fp, MM_eq_tp, MM_eq_fp, N_cl, N_in_t, N_in_f, M_in, N_div, N_rem, N_nb0, N_nb1, cond_true, cond_false, Bool.not_true, Bool.not_false, Bool.and_true, Bool.true_and, Bool.and_false, Bool.false_and, decide_true, decide_false, Option.bind_some, Option.bind_none, e1, Nat.add_sub_cancel, g1, g3, f]
  · simp (disch := omega) only [L_0, L_1, L_2, L_3, L_4, L_5, L_6, L_7, L_8, L_9, L_10, L_11, L_12, L_13, L_14, L_15, L_16, L_17, L_18, L_19, L_20, L_21, L_22, L_23, L_24, L_25, L_26, L_27, L_28, L_29, L_30, L_31, L_32, L_33, L_34, L_35, L_40, L_41, L_42, L_43, L_44, L_45, L_47, L_48, L_50, L_53, L_57, L_59, L_60, L_61, L_63, L_64, L_97, L_100, L_101, L_102, L_103, L_122, L_130, L_216, L_255, L_364, L_400, L_402, L_420, L_728, L_768, L_999, L_1000, L_1093, L_1872, L_2000, L_9999, L_12345, L_252645135, L_858993459, L_1103515245, L_1431655765, Lm_1, Lm_2, Lm_8, N_zero, N_cast, N_add, N_mul, N_sub, N_addM, N_lt_tp, N_lt_fp, N_le_tp, N_le_fp, N_eq_tp, N_eq_fp, MN_ltp, MN_lep, NM_ltp, NM_lep, NM_eqp, MN_eqp, MM_lt_tp, MM_lt_fp, MM_le_tp, MM_le_fp, MM_eq_tp, MM_eq_fp, N_cl, N_in_t, N_in_f, M_in, N_div, N_rem, N_nb0, N_nb1, cond_true, cond_false, Bool.not_true, Bool.not_false, Bool.and_true, Bool.true_and, Bool.and_false, Bool.false_and, decide_true, decide_false, Option.bind_some, Option.bind_none]
theorem M_in_t {h : wb_H} {k m : Nat} (hk : k ≤ m) (hm : m ≤ 2147483647) : q_M_in sc h (nN k) (nN 0) (nN m) = some (nN 1, h) := by
  rw [q_M_in_eq]
  simp (disch := omega) only [L_0, L_1, L_2, L_3, L_4, L_5, L_6, L_7, L_8, L_9, L_10, L_11, L_12, L_13, L_14, L_15, L_16, L_17, L_18, L_19, L_20, L_21, L_22, L_23, L_24, L_25, L_26, L_27, L_28, L_29, L_30, L_31, L_32, L_33, L_34, L_35, L_40, L_41, L_42, L_43, L_44, L_45, L_47, L_48, L_50, L_53, L_57, L_59, L_60, L_61, L_63, L_64, L_97, L_100, L_101, L_102, L_103, L_122, L_130, L_216, L_255, L_364, L_400, L_402, L_420, L_728, L_768, L_999, L_1000, L_1093, L_1872, L_2000, L_9999, L_12345, L_252645135, L_858993459, L_1103515245, L_1431655765, Lm_1, Lm_2, Lm_8, N_zero, N_cast, N_add, N_mul, N_sub, N_addM, N_lt_tp, N_lt_fp, N_le_tp, N_le_fp, N_eq_tp, N_eq_fp, MN_ltp, MN_lep, NM_ltp, NM_lep, NM_eqp, MN_eqp, MM_lt_tp, MM_lt_fp, MM_le_tp, MM_le_fp, MM_eq_tp, MM_eq_fp, N_cl, N_in_t, N_in_f, M_in, N_div, N_rem, N_nb0, N_nb1, cond_true, cond_false, Bool.not_true, Bool.not_false, Bool.and_true, Bool.true_and, Bool.and_false, Bool.false_and, decide_true, decide_false, Option.bind_some, Option.bind_none]
theorem M_in_f {h : wb_H} {a : Int32} {m : Nat} (hm : m ≤ 2147483647) (ha : ¬ hsP (m + 1) a) : q_M_in sc h a (nN 0) (nN m) = some (nN 0, h) := by
  rw [q_M_in_eq]
  rcases NM_all a with ⟨k, rfl, hk⟩ | ⟨k, rfl, hk1, hk2⟩
  · have : ¬ k < m + 1 := fun t => ha ⟨k, t, rfl⟩
    simp (disch := omega) only [L_0, L_1, L_2, L_3, L_4, L_5, L_6, L_7, L_8, L_9, L_10, L_11, L_12, L_13, L_14, L_15, L_16, L_17, L_18, L_19, L_20, L_21, L_22, L_23, L_24, L_25, L_26, L_27, L_28, L_29, L_30, L_31, L_32, L_33, L_34, L_35, L_40, L_41, L_42, L_43, L_44, L_45, L_47, L_48, L_50, L_53, L_57, L_59, L_60, L_61, L_63, L_64, L_97, L_100, L_101, L_102, L_103, L_122, L_130, L_216, L_255, L_364, L_400, L_402, L_420, L_728, L_768, L_999, L_1000, L_1093, L_1872, L_2000, L_9999, L_12345, L_252645135, L_858993459, L_1103515245, L_1431655765, Lm_1, Lm_2, Lm_8, N_zero, N_cast, N_add, N_mul, N_sub, N_addM, N_lt_tp, N_lt_fp, N_le_tp, N_le_fp, N_eq_tp, N_eq_fp, MN_ltp, MN_lep, NM_ltp, NM_lep, NM_eqp, MN_eqp, MM_lt_tp, MM_lt_fp, MM_le_tp, MM_le_fp, MM_eq_tp, MM_eq_fp, N_cl, N_in_t, N_in_f, M_in, N_div, N_rem, N_nb0, N_nb1, cond_true, cond_false, Bool.not_true, Bool.not_false, Bool.and_true, Bool.true_and, Bool.and_false, Bool.false_and, decide_true, decide_false, Option.bind_some, Option.bind_none]
  · simp (disch := omega) only [L_0, L_1, L_2, L_3, L_4, L_5, L_6, L_7, L_8, L_9, L_10, L_11, L_12, L_13, L_14, L_15, L_16, L_17, L_18, L_19, L_20, L_21, L_22, L_23, L_24, L_25, L_26, L_27, L_28, L_29, L_30, L_31, L_32, L_33, L_34, L_35, L_40, L_41, L_42, L_43, L_44, L_45, L_47, L_48, L_50, L_53, L_57, L_59, L_60, L_61, L_63, L_64, L_97, L_100, L_101, L_102, L_103, L_122, L_130, L_216, L_255, L_364, L_400, L_402, L_420, L_728, L_768, L_999, L_1000, L_1093, L_1872, L_2000, L_9999, L_12345, L_252645135, L_858993459, L_1103515245, L_1431655765, Lm_1, Lm_2, Lm_8, N_zero, N_cast, N_add, N_mul, N_sub, N_addM, N_lt_tp, N_lt_fp, N_le_tp, N_le_fp, N_eq_tp, N_eq_fp, MN_ltp, MN_lep, NM_ltp, NM_lep, NM_eqp, MN_eqp, MM_lt_tp, MM_lt_fp, MM_le_tp, MM_le_fp, MM_eq_tp, MM_eq_fp, N_cl, N_in_t, N_in_f, M_in, N_div, N_rem, N_nb0, N_nb1, cond_true, cond_false, Bool.not_true, Bool.not_false, Bool.and_true, Bool.true_and, Bool.and_false, Bool.false_and, decide_true, decide_false, Option.bind_some, Option.bind_none]
theorem M_isHouse_t {h : wb_H} (C : Core h T R v q s B) {i : Nat} (hi : i < tn T) : q_M_isHouse sc h (nN i) = some (nN 1, h) := by
  have n6 := C.1.1
  obtain ⟨a1, a2, a3, -⟩ := C.2.2.2.2.1
  rw [q_M_isHouse_eq]
  simp (disch := omega) only [L_0, L_1, L_2, L_3, L_4, L_5, L_6, L_7, L_8, L_9, L_10, L_11, L_12, L_13, L_14, L_15, L_16, L_17, L_18, L_19, L_20, L_21, L_22, L_23, L_24, L_25, L_26, L_27, L_28, L_29, L_30, L_31, L_32, L_33, L_34, L_35, L_40, L_41, L_42, L_43, L_44, L_45, L_47, L_48, L_50, L_53, L_57, L_59, L_60, L_61, L_63, L_64, L_97, L_100, L_101, L_102, L_103, L_122, L_130, L_216, L_255, L_364, L_400, L_402, L_420, L_728, L_768, L_999, L_1000, L_1093, L_1872, L_2000, L_9999, L_12345, L_252645135, L_858993459, L_1103515245, L_1431655765, Lm_1, Lm_2, Lm_8, N_zero, N_cast, N_add, N_mul, N_sub, N_addM, N_lt_tp, N_lt_fp, N_le_tp, N_le_fp, N_eq_tp, N_eq_fp, MN_ltp, MN_lep, NM_ltp, NM_lep, NM_eqp, MN_eqp, MM_lt_tp, MM_lt_fp, MM_le_tp, MM_le_fp, MM_eq_tp, MM_eq_fp, N_cl, N_in_t, N_in_f, M_in, N_div, N_rem, N_nb0, N_nb1, cond_true, cond_false, Bool.not_true, Bool.not_false, Bool.and_true, Bool.true_and, Bool.and_false, Bool.false_and, decide_true, decide_false, Option.bind_some, Option.bind_none, a2, a3, M_in_t (sc := sc) (h := h) (show i ≤ tn T - 1 by omega) (show tn T - 1 ≤ 2147483647 by omega)]
theorem M_isHouse_f {h : wb_H} (C : Core h T R v q s B) {a : Int32} (ha : ¬ hsP (tn T) a) : q_M_isHouse sc h a = some (nN 0, h) := by
  have n6 := C.1.1
  obtain ⟨a1, a2, a3, -⟩ := C.2.2.2.2.1
  rw [q_M_isHouse_eq]
  by_cases z : tn T = 0
  · rw [z] at a3
    have e : nN 0 - nN 1 = nM 1 := N_sub_M (by decide)
    have e2 : q_M_in sc h a (nN 0) (nM 1) = some (nN 0, h) := by
      rw [q_M_in_eq]
      rcases NM_all a with ⟨k, rfl, hk⟩ | ⟨k, rfl, hk1, hk2⟩
      · simp (disch := omega) only [L_0, L_1, L_2, L_3, L_4, L_5, L_6, L_7, L_8, L_9, L_10, L_11, L_12, L_13, L_14, L_15, L_16, L_17, L_18, L_19, L_20, L_21, L_22, L_23, L_24, L_25, L_26, L_27, L_28, L_29, L_30, L_31, L_32, L_33, L_34, L_35, L_40, L_41, L_42, L_43, L_44, L_45, L_47, L_48, L_50, L_53, L_57, L_59, L_60, L_61, L_63, L_64, L_97, L_100, L_101, L_102, L_103, L_122, L_130, L_216, L_255, L_364, L_400, L_402, L_420, L_728, L_768, L_999, L_1000, L_1093, L_1872, L_2000, L_9999, L_12345, L_252645135, L_858993459, L_1103515245, L_1431655765, Lm_1, Lm_2, Lm_8, N_zero, N_cast, N_add, N_mul, N_sub, N_addM, N_lt_tp, N_lt_fp, N_le_tp, N_le_fp, N_eq_tp, N_eq_fp, MN_ltp, MN_lep, NM_ltp, NM_lep, NM_eqp, MN_eqp, MM_lt_tp, MM_lt_fp, MM_le_tp, MM_le_fp, MM_eq_tp, MM_eq_fp, N_cl, N_in_t, N_in_f, M_in, N_div, N_rem, N_nb0, N_nb1, cond_true, cond_false, Bool.not_true, Bool.not_false, Bool.and_true, Bool.true_and, Bool.and_false, Bool.false_and, decide_true, decide_false, Option.bind_some, Option.bind_none]
      · simp (disch := omega) only [L_0, L_1, L_2, L_3, L_4, L_5, L_6, L_7, L_8, L_9, L_10, L_11, L_12, L_13, L_14, L_15, L_16, L_17, L_18, L_19, L_20, L_21, L_22, L_23, L_24, L_25, L_26, L_27, L_28, L_29, L_30, L_31, L_32, L_33, L_34, L_35, L_40, L_41, L_42, L_43, L_44, L_45, L_47, L_48, L_50, L_53, L_57, L_59, L_60, L_61, L_63, L_64, L_97, L_100, L_101, L_102, L_103, L_122, L_130, L_216, L_255, L_364, L_400, L_402, L_420, L_728, L_768, L_999, L_1000, L_1093, L_1872, L_2000, L_9999, L_12345, L_252645135, L_858993459, L_1103515245, L_1431655765, Lm_1, Lm_2, Lm_8, N_zero, N_cast, N_add, N_mul, N_sub, N_addM, N_lt_tp, N_lt_fp, N_le_tp, N_le_fp, N_eq_tp, N_eq_fp, MN_ltp, MN_lep, NM_ltp, NM_lep, NM_eqp, MN_eqp, MM_lt_tp, MM_lt_fp, MM_le_tp, MM_le_fp, MM_eq_tp, MM_eq_fp, N_cl, N_in_t, N_in_f, M_in, N_div, N_rem, N_nb0, N_nb1, cond_true, cond_false, Bool.not_true, Bool.not_false, Bool.and_true, Bool.true_and, Bool.and_false, Bool.false_and, decide_true, decide_false, Option.bind_some, Option.bind_none]
    simp (disch := omega) only [L_0, L_1, L_2, L_3, L_4, L_5, L_6, L_7, L_8, L_9, L_10, L_11, L_12, L_13, L_14, L_15, L_16, L_17, L_18, L_19, L_20, L_21, L_22, L_23, L_24, L_25, L_26, L_27, L_28, L_29, L_30, L_31, L_32, L_33, L_34, L_35, L_40, L_41, L_42, L_43, L_44, L_45, L_47, L_48, L_50, L_53, L_57, L_59, L_60, L_61, L_63, L_64, L_97, L_100, L_101, L_102, L_103, L_122, L_130, L_216, L_255, L_364, L_400, L_402, L_420, L_728, L_768, L_999, L_1000, L_1093, L_1872, L_2000, L_9999, L_12345, L_252645135, L_858993459, L_1103515245, L_1431655765, Lm_1, Lm_2, Lm_8, N_zero, N_cast, N_add, N_mul, N_sub, N_addM, N_lt_tp, N_lt_fp, N_le_tp, N_le_fp, N_eq_tp, N_eq_fp, MN_ltp, MN_lep, NM_ltp, NM_lep, NM_eqp, MN_eqp, MM_lt_tp, MM_lt_fp, MM_le_tp, MM_le_fp, MM_eq_tp, MM_eq_fp, N_cl, N_in_t, N_in_f, M_in, N_div, N_rem, N_nb0, N_nb1, cond_true, cond_false, Bool.not_true, Bool.not_false, Bool.and_true, Bool.true_and, Bool.and_false, Bool.false_and, decide_true, decide_false, Option.bind_some, Option.bind_none, a2, a3, e, e2]
  · have e2 := M_in_f (sc := sc) (h := h) (m := tn T - 1) (by omega) (by rw [show tn T - 1 + 1 = tn T by omega]; exact ha)
    simp (disch := omega) only [L_0, L_1, L_2, L_3, L_4, L_5, L_6, L_7, L_8, L_9, L_10, L_11, L_12, L_13, L_14, L_15, L_16, L_17, L_18, L_19, L_20, L_21, L_22, L_23, L_24, L_25, L_26, L_27, L_28, L_29, L_30, L_31, L_32, L_33, L_34, L_35, L_40, L_41, L_42, L_43, L_44, L_45, L_47, L_48, L_50, L_53, L_57, L_59, L_60, L_61, L_63, L_64, L_97, L_100, L_101, L_102, L_103, L_122, L_130, L_216, L_255, L_364, L_400, L_402, L_420, L_728, L_768, L_999, L_1000, L_1093, L_1872, L_2000, L_9999, L_12345, L_252645135, L_858993459, L_1103515245, L_1431655765, Lm_1, Lm_2, Lm_8, N_zero, N_cast, N_add, N_mul, N_sub, N_addM, N_lt_tp, N_lt_fp, N_le_tp, N_le_fp, N_eq_tp, N_eq_fp, MN_ltp, MN_lep, NM_ltp, NM_lep, NM_eqp, MN_eqp, MM_lt_tp, MM_lt_fp, MM_le_tp, MM_le_fp, MM_eq_tp, MM_eq_fp, N_cl, N_in_t, N_in_f, M_in, N_div, N_rem, N_nb0, N_nb1, cond_true, cond_false, Bool.not_true, Bool.not_false, Bool.and_true, Bool.true_and, Bool.and_false, Bool.false_and, decide_true, decide_false, Option.bind_some, Option.bind_none, a2, a3, e2]
theorem X_isRow_t {h : wb_H} {r : Nat} (hr : r < 729) : q_X_isRow sc h (nN r) = some (nN 1, h) := by
  rw [q_X_isRow_eq]
  simp (disch := omega) only [L_0, L_1, L_2, L_3, L_4, L_5, L_6, L_7, L_8, L_9, L_10, L_11, L_12, L_13, L_14, L_15, L_16, L_17, L_18, L_19, L_20, L_21, L_22, L_23, L_24, L_25, L_26, L_27, L_28, L_29, L_30, L_31, L_32, L_33, L_34, L_35, L_40, L_41, L_42, L_43, L_44, L_45, L_47, L_48, L_50, L_53, L_57, L_59, L_60, L_61, L_63, L_64, L_97, L_100, L_101, L_102, L_103, L_122, L_130, L_216, L_255, L_364, L_400, L_402, L_420, L_728, L_768, L_999, L_1000, L_1093, L_1872, L_2000, L_9999, L_12345, L_252645135, L_858993459, L_1103515245, L_1431655765, Lm_1, Lm_2, Lm_8, N_zero, N_cast, N_add, N_mul, N_sub, N_addM, N_lt_tp, N_lt_fp, N_le_tp, N_le_fp, N_eq_tp, N_eq_fp, MN_ltp, MN_lep, NM_ltp, NM_lep, NM_eqp, MN_eqp, MM_lt_tp, MM_lt_fp, MM_le_tp, MM_le_fp, MM_eq_tp, MM_eq_fp, N_cl, N_in_t, N_in_f, M_in, N_div, N_rem, N_nb0, N_nb1, cond_true, cond_false, Bool.not_true, Bool.not_false, Bool.and_true, Bool.true_and, Bool.and_false, Bool.false_and, decide_true, decide_false, Option.bind_some, Option.bind_none, t3_1, t3_2]
theorem X_isRow_f {h : wb_H} {a : Int32} (ha : ¬ hsP 729 a) : q_X_isRow sc h a = some (nN 0, h) := by
  rw [q_X_isRow_eq]
  rcases NM_all a with ⟨k, rfl, hk⟩ | ⟨k, rfl, hk1, hk2⟩
  · have : ¬ k < 729 := fun t => ha ⟨k, t, rfl⟩
    simp (disch := omega) only [L_0, L_1, L_2, L_3, L_4, L_5, L_6, L_7, L_8, L_9, L_10, L_11, L_12, L_13, L_14, L_15, L_16, L_17, L_18, L_19, L_20, L_21, L_22, L_23, L_24, L_25, L_26, L_27, L_28, L_29, L_30, L_31, L_32, L_33, L_34, L_35, L_40, L_41, L_42, L_43, L_44, L_45, L_47, L_48, L_50, L_53, L_57, L_59, L_60, L_61, L_63, L_64, L_97, L_100, L_101, L_102, L_103, L_122, L_130, L_216, L_255, L_364, L_400, L_402, L_420, L_728, L_768, L_999, L_1000, L_1093, L_1872, L_2000, L_9999, L_12345, L_252645135, L_858993459, L_1103515245, L_1431655765, Lm_1, Lm_2, Lm_8, N_zero, N_cast, N_add, N_mul, N_sub, N_addM, N_lt_tp, N_lt_fp, N_le_tp, N_le_fp, N_eq_tp, N_eq_fp, MN_ltp, MN_lep, NM_ltp, NM_lep, NM_eqp, MN_eqp, MM_lt_tp, MM_lt_fp, MM_le_tp, MM_le_fp, MM_eq_tp, MM_eq_fp, N_cl, N_in_t, N_in_f, M_in, N_div, N_rem, N_nb0, N_nb1, cond_true, cond_false, Bool.not_true, Bool.not_false, Bool.and_true, Bool.true_and, Bool.and_false, Bool.false_and, decide_true, decide_false, Option.bind_some, Option.bind_none, t3_1, t3_2]
  · simp (disch := omega) only [L_0, L_1, L_2, L_3, L_4, L_5, L_6, L_7, L_8, L_9, L_10, L_11, L_12, L_13, L_14, L_15, L_16, L_17, L_18, L_19, L_20, L_21, L_22, L_23, L_24, L_25, L_26, L_27, L_28, L_29, L_30, L_31, L_32, L_33, L_34, L_35, L_40, L_41, L_42, L_43, L_44, L_45, L_47, L_48, L_50, L_53, L_57, L_59, L_60, L_61, L_63, L_64, L_97, L_100, L_101, L_102, L_103, L_122, L_130, L_216, L_255, L_364, L_400, L_402, L_420, L_728, L_768, L_999, L_1000, L_1093, L_1872, L_2000, L_9999, L_12345, L_252645135, L_858993459, L_1103515245, L_1431655765, Lm_1, Lm_2, Lm_8, N_zero, N_cast, N_add, N_mul, N_sub, N_addM, N_lt_tp, N_lt_fp, N_le_tp, N_le_fp, N_eq_tp, N_eq_fp, MN_ltp, MN_lep, NM_ltp, NM_lep, NM_eqp, MN_eqp, MM_lt_tp, MM_lt_fp, MM_le_tp, MM_le_fp, MM_eq_tp, MM_eq_fp, N_cl, N_in_t, N_in_f, M_in, N_div, N_rem, N_nb0, N_nb1, cond_true, cond_false, Bool.not_true, Bool.not_false, Bool.and_true, Bool.true_and, Bool.and_false, Bool.false_and, decide_true, decide_false, Option.bind_some, Option.bind_none]
theorem M_isRow_t {h : wb_H} {r : Nat} (hr : r < 729) : q_M_isRow sc h (nN r) = some (nN 1, h) := by
  rw [q_M_isRow_eq]
  simp (disch := omega) only [L_0, L_1, L_2, L_3, L_4, L_5, L_6, L_7, L_8, L_9, L_10, L_11, L_12, L_13, L_14, L_15, L_16, L_17, L_18, L_19, L_20, L_21, L_22, L_23, L_24, L_25, L_26, L_27, L_28, L_29, L_30, L_31, L_32, L_33, L_34, L_35, L_40, L_41, L_42, L_43, L_44, L_45, L_47, L_48, L_50, L_53, L_57, L_59, L_60, L_61, L_63, L_64, L_97, L_100, L_101, L_102, L_103, L_122, L_130, L_216, L_255, L_364, L_400, L_402, L_420, L_728, L_768, L_999, L_1000, L_1093, L_1872, L_2000, L_9999, L_12345, L_252645135, L_858993459, L_1103515245, L_1431655765, Lm_1, Lm_2, Lm_8, N_zero, N_cast, N_add, N_mul, N_sub, N_addM, N_lt_tp, N_lt_fp, N_le_tp, N_le_fp, N_eq_tp, N_eq_fp, MN_ltp, MN_lep, NM_ltp, NM_lep, NM_eqp, MN_eqp, MM_lt_tp, MM_lt_fp, MM_le_tp, MM_le_fp, MM_eq_tp, MM_eq_fp, N_cl, N_in_t, N_in_f, M_in, N_div, N_rem, N_nb0, N_nb1, cond_true, cond_false, Bool.not_true, Bool.not_false, Bool.and_true, Bool.true_and, Bool.and_false, Bool.false_and, decide_true, decide_false, Option.bind_some, Option.bind_none, M_in_t (sc := sc) (h := h) (show r ≤ 728 by omega) (show 728 ≤ 2147483647 by omega)]
theorem M_isRow_f {h : wb_H} {a : Int32} (ha : ¬ hsP 729 a) : q_M_isRow sc h a = some (nN 0, h) := by
  rw [q_M_isRow_eq]
  have e := M_in_f (sc := sc) (h := h) (a := a) (m := 728) (by omega) ha
  simp (disch := omega) only [L_0, L_1, L_2, L_3, L_4, L_5, L_6, L_7, L_8, L_9, L_10, L_11, L_12, L_13, L_14, L_15, L_16, L_17, L_18, L_19, L_20, L_21, L_22, L_23, L_24, L_25, L_26, L_27, L_28, L_29, L_30, L_31, L_32, L_33, L_34, L_35, L_40, L_41, L_42, L_43, L_44, L_45, L_47, L_48, L_50, L_53, L_57, L_59, L_60, L_61, L_63, L_64, L_97, L_100, L_101, L_102, L_103, L_122, L_130, L_216, L_255, L_364, L_400, L_402, L_420, L_728, L_768, L_999, L_1000, L_1093, L_1872, L_2000, L_9999, L_12345, L_252645135, L_858993459, L_1103515245, L_1431655765, Lm_1, Lm_2, Lm_8, N_zero, N_cast, N_add, N_mul, N_sub, N_addM, N_lt_tp, N_lt_fp, N_le_tp, N_le_fp, N_eq_tp, N_eq_fp, MN_ltp, MN_lep, NM_ltp, NM_lep, NM_eqp, MN_eqp, MM_lt_tp, MM_lt_fp, MM_le_tp, MM_le_fp, MM_eq_tp, MM_eq_fp, N_cl, N_in_t, N_in_f, M_in, N_div, N_rem, N_nb0, N_nb1, cond_true, cond_false, Bool.not_true, Bool.not_false, Bool.and_true, Bool.true_and, Bool.and_false, Bool.false_and, decide_true, decide_false, Option.bind_some, Option.bind_none, e]
theorem X_allWeight {h : wb_H} (C : Core h T R v q s B) : q_X_allWeight sc h = some (nN (10 ^ (tn T + 1)), h) := by
  obtain ⟨e1, e2⟩ := X_ptr C
  have n6 := C.1.1
  have g1 : decide (0 < q + 1) = true := decide_eq_true (by omega)
  have g3 : decide (q < 2) = true := decide_eq_true e2
  have f := C.2.2.2.1.2.1
  rw [q_X_allWeight_eq]
  simp (disch := omega) only [L_0, L_1, L_2, L_3, L_4, L_5, L_6, L_7, L_8, L_9, L_10, L_11, L_12, L_13, L_14, L_15, L_16, L_17, L_18, L_19, L_20, L_21, L_22, L_23, L_24, L_25, L_26, L_27, L_28, L_29, L_30, L_31, L_32, L_33, L_34, L_35, L_40, L_41, L_42, L_43, L_44, L_45, L_47, L_48, L_50, L_53, L_57, L_59, L_60, L_61, L_63, L_64, L_97, L_100, L_101, L_102, L_103, L_122, L_130, L_216, L_255, L_364, L_400, L_402, L_420, L_728, L_768, L_999, L_1000, L_1093, L_1872, L_2000, L_9999, L_12345, L_252645135, L_858993459, L_1103515245, L_1431655765, Lm_1, Lm_2, Lm_8, N_zero, N_cast, N_add, N_mul, N_sub, N_addM, N_lt_tp, N_lt_fp, N_le_tp, N_le_fp, N_eq_tp, N_eq_fp, MN_ltp, MN_lep, NM_ltp, NM_lep, NM_eqp, MN_eqp, MM_lt_tp, MM_lt_fp, MM_le_tp, MM_le_fp, MM_eq_tp, MM_eq_fp, N_cl, N_in_t, N_in_f, M_in, N_div, N_rem, N_nb0, N_nb1, cond_true, cond_false, Bool.not_true, Bool.not_false, Bool.and_true, Bool.true_and, Bool.and_false, Bool.false_and, decide_true, decide_false, Option.bind_some, Option.bind_none, e1, Nat.add_sub_cancel, g1, g3, f, tt_1, tt_2]
theorem p10_le (T : wT) (hT : T_ok T) : 10 ^ (tn T + 1) ≤ 10000000 := Nat.pow_le_pow_right (n := 10) (by decide) (show tn T + 1 ≤ 7 by have := hT.1; omega)
theorem p10_pos (n : Nat) : 0 < 10 ^ n := Nat.pow_pos (by decide)
theorem X_partOfAll {h : wb_H} (C : Core h T R v q s B) {a : Int} {g : Nat} (h1 : -2147483647 ≤ a) (h2 : a ≤ 2147483647) (hg : g ≤ 1) : q_X_partOfAll sc h (Int64.ofInt a) (nN g) = some (fr a (10 ^ (tn T + 1)) g, h) := by
  have p1 := p10_le T C.1
  have p2 := p10_pos (tn T + 1)
  rw [q_X_partOfAll_eq, X_allWeight C]
  simp only [Option.bind_some]
  rw [nN_long (by omega), X_fraction h1 h2 p2 (by omega) hg]
  rfl
theorem X_tonight {h : wb_H} (C : Core h T R v q s B) (D : Cache h T R q) : Ok (q_X_tonight sc h) (fun h' => Fr XQQ h h' ∧ XA h' q (mkA T R) ∧ XE h' (mkA T R) 0 ∧ Cache h' T R q) := by
  obtain ⟨e1, e2⟩ := X_ptr C
  have g1 : decide (0 < q + 1) = true := decide_eq_true (by omega)
  obtain ⟨D1, D2, D3⟩ := D
  rw [q_X_tonight_eq]
  rcases D1 with e | ⟨e, x1, x2⟩
  · have f := C.2.2.2.2.2.2.2.1.1.2.2
    simp (disch := omega) only [L_0, L_1, L_2, L_3, L_4, L_5, L_6, L_7, L_8, L_9, L_10, L_11, L_12, L_13, L_14, L_15, L_16, L_17, L_18, L_19, L_20, L_21, L_22, L_23, L_24, L_25, L_26, L_27, L_28, L_29, L_30, L_31, L_32, L_33, L_34, L_35, L_40, L_41, L_42, L_43, L_44, L_45, L_47, L_48, L_50, L_53, L_57, L_59, L_60, L_61, L_63, L_64, L_97, L_100, L_101, L_102, L_103, L_122, L_130, L_216, L_255, L_364, L_400, L_402, L_420, L_728, L_768, L_999, L_1000, L_1093, L_1872, L_2000, L_9999, L_12345, L_252645135, L_858993459, L_1103515245, L_1431655765, Lm_1, Lm_2, Lm_8, N_zero, N_cast, N_add, N_mul, N_sub, N_addM, N_lt_tp, N_lt_fp, N_le_tp, N_le_fp, N_eq_tp, N_eq_fp, MN_ltp, MN_lep, NM_ltp, NM_lep, NM_eqp, MN_eqp, MM_lt_tp, MM_lt_fp, MM_le_tp, MM_le_fp, MM_eq_tp, MM_eq_fp, N_cl, N_in_t, N_in_f, M_in, N_div, N_rem, N_nb0, N_nb1, cond_true, cond_false, Bool.not_true, Bool.not_false, Bool.and_true, Bool.true_and, Bool.and_false, Bool.false_and, decide_true, decide_false, Option.bind_some, Option.bind_none, e, e1, Nat.add_sub_cancel, g1, f]
    refine Ok_bind (X_arrange C.1 C.2.1 C.2.2.2.1 C.2.2.2.2.2.2.2.1.1 C.2.1.2.2.2.2 (by decide)) ?_
    rintro h1 ⟨F1, -, A1⟩
    rw [rwith_self] at A1
    refine Ok_bind (X_unfold (mkA_ok C.1 C.2.1) (Nat.zero_le _) A1) ?_
    rintro h2 ⟨F2, E2⟩
    have F3 : Fr [2015] h2 (wb_iu h2 20 0 15 (nN 1)) := Fr_iu rfl
    have F12 : Fr XQQ h h2 := Fr_trans (Fr_mono F1 rfl) (Fr_mono F2 rfl)
    have A3 := XA_fr F3 rfl (XA_fr F2 rfl A1)
    have E3 := XE_fr F3 rfl E2
    have F4 : Fr (SA ++ SX ++ [2015]) h (wb_iu h2 20 0 15 (nN 1)) := Fr_trans (Fr_trans (Fr_mono F1 rfl) (Fr_mono F2 rfl)) (Fr_mono F3 rfl)
    refine Ok_some ⟨Fr_trans F12 (Fr_mono F3 rfl), A3, E3, Or.inr ⟨iu_at, A3, E3⟩, fun l hl => ?_, ?_⟩
    · rw [Fr_i F4 (t := 62) (by rfl)]
      exact D2 l hl
    · rw [Fr_i F4 (t := 20) (k := 14) (by rfl)]
      rcases D3 with d | d
      · exact Or.inl d
      · refine Or.inr ⟨(Fr_i F4 (by rfl)).trans d.1, fun set hs gs => (Fr_i F4 (by rfl)).trans (d.2 set hs gs)⟩
  · simp (disch := omega) only [L_0, L_1, L_2, L_3, L_4, L_5, L_6, L_7, L_8, L_9, L_10, L_11, L_12, L_13, L_14, L_15, L_16, L_17, L_18, L_19, L_20, L_21, L_22, L_23, L_24, L_25, L_26, L_27, L_28, L_29, L_30, L_31, L_32, L_33, L_34, L_35, L_40, L_41, L_42, L_43, L_44, L_45, L_47, L_48, L_50, L_53, L_57, L_59, L_60, L_61, L_63, L_64, L_97, L_100, L_101, L_102, L_103, L_122, L_130, L_216, L_255, L_364, L_400, L_402, L_420, L_728, L_768, L_999, L_1000, L_1093, L_1872, L_2000, L_9999, L_12345, L_252645135, L_858993459, L_1103515245, L_1431655765, Lm_1, Lm_2, Lm_8, N_zero, N_cast, N_add, N_mul, N_sub, N_addM, N_lt_tp, N_lt_fp, N_le_tp, N_le_fp, N_eq_tp, N_eq_fp, MN_ltp, MN_lep, NM_ltp, NM_lep, NM_eqp, MN_eqp, MM_lt_tp, MM_lt_fp, MM_le_tp, MM_le_fp, MM_eq_tp, MM_eq_fp, N_cl, N_in_t, N_in_f, M_in, N_div, N_rem, N_nb0, N_nb1, cond_true, cond_false, Bool.not_true, Bool.not_false, Bool.and_true, Bool.true_and, Bool.and_false, Bool.false_and, decide_true, decide_false, Option.bind_some, Option.bind_none, e]
    exact Ok_some ⟨Fr_refl _ _, x1, x2, Or.inr ⟨e, x1, x2⟩, D2, D3⟩
theorem wrP_10 {A : wa} (hA : wa_ok A) (Q p : Nat) : wrP A Q p ≤ 10000000 := by
  have := wrP_le hA Q p
  have h : 10 ^ (an A + 1) ≤ 10000000 := Nat.pow_le_pow_right (n := 10) (by decide) (show an A + 1 ≤ 7 by have := hA.1; omega)
  omega
theorem boP_10 {A : wa} (hA : wa_ok A) (Q p : Nat) : boP A Q p ≤ 10000000 := by
  have := wrP_le hA Q p
  have h : 10 ^ (an A + 1) ≤ 10000000 := Nat.pow_le_pow_right (n := 10) (by decide) (show an A + 1 ≤ 7 by have := hA.1; omega)
  omega
theorem sm_bd {f : Nat → Nat} {c : Nat} (hf : ∀ i, f i ≤ c) : ∀ n, sm n f ≤ n * c
  | 0 => by rw [Nat.zero_mul]; exact Nat.le_refl _
  | n + 1 => by
    have := sm_bd hf n
    have := hf n
    rw [sm, Nat.succ_mul]
    omega
theorem mnA_le {A : wa} (hA : wa_ok A) (Q : Nat) : mnA A Q ≤ 60000000 := by
  have h : mnA A Q = sm (an A) (wrP A Q) := (wr_sum A Q).symm
  rw [h]
  have := sm_bd (fun i => wrP_10 hA Q i) (an A)
  have h6 := hA.1
  have := Nat.mul_le_mul_right 10000000 h6
  omega
theorem X_allWrong {h : wb_H} {A : wa} {Q : Nat} (hA : wa_ok A) (hX : XA h q A) (hE : XE h A Q) : q_Evening_allWrong sc h = some (nN (mnA A Q), h) := by
  have h6 := hA.1
  have a3 := hX.2.2.1
  have key : ∀ k j, j + k = an A → q_Evening_allWrong_L4 sc h (nN (sm j (fun i => wrP A Q (apl A i)))) (nN j) = some (nN (sm (an A) (fun i => wrP A Q (apl A i))), h) := by
    intro k
    induction k with
    | zero =>
      intro j hj
      rw [Nat.add_zero] at hj
      subst hj
      rw [q_Evening_allWrong_L4_eq]
      simp (disch := omega) only [L_0, L_1, L_2, L_3, L_4, L_5, L_6, L_7, L_8, L_9, L_10, L_11, L_12, L_13, L_14, L_15, L_16, L_17, L_18, L_19, L_20, L_21, L_22, L_23, L_24, L_25, L_26, L_27, L_28, L_29, L_30, L_31, L_32, L_33, L_34, L_35, L_40, L_41, L_42, L_43, L_44, L_45, L_47, L_48, L_50, L_53, L_57, L_59, L_60, L_61, L_63, L_64, L_97, L_100, L_101, L_102, L_103, L_122, L_130, L_216, L_255, L_364, L_400, L_402, L_420, L_728, L_768, L_999, L_1000, L_1093, L_1872, L_2000, L_9999, L_12345, L_252645135, L_858993459, L_1103515245, L_1431655765, Lm_1, Lm_2, Lm_8, N_zero, N_cast, N_add, N_mul, N_sub, N_addM, N_lt_tp, N_lt_fp, N_le_tp, N_le_fp, N_eq_tp, N_eq_fp, MN_ltp, MN_lep, NM_ltp, NM_lep, NM_eqp, MN_eqp, MM_lt_tp, MM_lt_fp, MM_le_tp, MM_le_fp, MM_eq_tp, MM_eq_fp, N_cl, N_in_t, N_in_f, M_in, N_div, N_rem, N_nb0, N_nb1, cond_true, cond_false, Bool.not_true, Bool.not_false, Bool.and_true, Bool.true_and, Bool.and_false, Bool.false_and, decide_true, decide_false, Option.bind_some, Option.bind_none, a3]
    | succ k ih =>
      intro j hj
      have f := hE.1 j (by omega)
      have ih2 := ih (j + 1) (by omega)
      rw [sm] at ih2
      rw [q_Evening_allWrong_L4_eq]
      simp (disch := omega) only [L_0, L_1, L_2, L_3, L_4, L_5, L_6, L_7, L_8, L_9, L_10, L_11, L_12, L_13, L_14, L_15, L_16, L_17, L_18, L_19, L_20, L_21, L_22, L_23, L_24, L_25, L_26, L_27, L_28, L_29, L_30, L_31, L_32, L_33, L_34, L_35, L_40, L_41, L_42, L_43, L_44, L_45, L_47, L_48, L_50, L_53, L_57, L_59, L_60, L_61, L_63, L_64, L_97, L_100, L_101, L_102, L_103, L_122, L_130, L_216, L_255, L_364, L_400, L_402, L_420, L_728, L_768, L_999, L_1000, L_1093, L_1872, L_2000, L_9999, L_12345, L_252645135, L_858993459, L_1103515245, L_1431655765, Lm_1, Lm_2, Lm_8, N_zero, N_cast, N_add, N_mul, N_sub, N_addM, N_lt_tp, N_lt_fp, N_le_tp, N_le_fp, N_eq_tp, N_eq_fp, MN_ltp, MN_lep, NM_ltp, NM_lep, NM_eqp, MN_eqp, MM_lt_tp, MM_lt_fp, MM_le_tp, MM_le_fp, MM_eq_tp, MM_eq_fp, N_cl, N_in_t, N_in_f, M_in, N_div, N_rem, N_nb0, N_nb1, cond_true, cond_false, Bool.not_true, Bool.not_false, Bool.and_true, Bool.true_and, Bool.and_false, Bool.false_and, decide_true, decide_false, Option.bind_some, Option.bind_none, a3, f]
      exact ih2
  rw [q_Evening_allWrong_eq]
  have := key (an A) 0 (Nat.zero_add _)
  rw [sm_house hA (wrP A Q), wr_sum] at this
  exact this
theorem X_meanWith {h : wb_H} (C : Core h T R v q s B) (D : Cache h T R q) {l : Nat} (hl : l < 2 ^ tn T) : Ok (q_X_meanWith sc h (nN l)) (fun r => r.1 = nN (mnA (mkA T (rwith R l 0)) 0) ∧ Fr XQQ h r.2 ∧ Cache r.2 T R q) := by
  have p64 := pow2_64 C.1.1
  obtain ⟨e1, e2⟩ := X_ptr C
  have g1 : decide (0 < q + 1) = true := decide_eq_true (by omega)
  have hA := mkA_ok C.1 (rwith_ok C.2.1 (own := 0) hl)
  have hm := mnA_le hA 0
  have D0 := D
  obtain ⟨D1, D2, D3⟩ := D
  rw [q_X_meanWith_eq]
  rcases D2 l hl with e | e
  · simp (disch := omega) only [L_0, L_1, L_2, L_3, L_4, L_5, L_6, L_7, L_8, L_9, L_10, L_11, L_12, L_13, L_14, L_15, L_16, L_17, L_18, L_19, L_20, L_21, L_22, L_23, L_24, L_25, L_26, L_27, L_28, L_29, L_30, L_31, L_32, L_33, L_34, L_35, L_40, L_41, L_42, L_43, L_44, L_45, L_47, L_48, L_50, L_53, L_57, L_59, L_60, L_61, L_63, L_64, L_97, L_100, L_101, L_102, L_103, L_122, L_130, L_216, L_255, L_364, L_400, L_402, L_420, L_728, L_768, L_999, L_1000, L_1093, L_1872, L_2000, L_9999, L_12345, L_252645135, L_858993459, L_1103515245, L_1431655765, Lm_1, Lm_2, Lm_8, N_zero, N_cast, N_add, N_mul, N_sub, N_addM, N_lt_tp, N_lt_fp, N_le_tp, N_le_fp, N_eq_tp, N_eq_fp, MN_ltp, MN_lep, NM_ltp, NM_lep, NM_eqp, MN_eqp, MM_lt_tp, MM_lt_fp, MM_le_tp, MM_le_fp, MM_eq_tp, MM_eq_fp, N_cl, N_in_t, N_in_f, M_in, N_div, N_rem, N_nb0, N_nb1, cond_true, cond_false, Bool.not_true, Bool.not_false, Bool.and_true, Bool.true_and, Bool.and_false, Bool.false_and, decide_true, decide_false, Option.bind_some, Option.bind_none, e, e1, Nat.add_sub_cancel, g1]
    refine Ok_bind (X_arrange C.1 C.2.1 C.2.2.2.1 C.2.2.2.2.2.2.2.1.1 hl (by decide)) ?_
    rintro h1 ⟨F1, -, A1⟩
    refine Ok_bind (X_unfold hA (Nat.zero_le _) A1) ?_
    rintro h2 ⟨F2, E2⟩
    have F12 : Fr (SA ++ SX) h h2 := Fr_trans (Fr_mono F1 rfl) (Fr_mono F2 rfl)
    have A2 := XA_fr F2 rfl A1
    have l2 : h2.1 17 0 2 = nN (rlf R) := (Fr_i F12 (by rfl)).trans C.2.2.2.2.2.2.2.1.1.2.2
    have rl := C.2.1.2.2.2.2
    have fin : ∀ b, (b = 0 ∨ (b = 1 ∧ l = rlf R)) → Ok ((q_Evening_allWrong sc (wb_iu h2 20 0 15 (nN b))).bind fun r3 => some (((wb_iu r3.2 62 0 l r3.1).1 62 0 l), (wb_iu r3.2 62 0 l r3.1))) (fun r => r.1 = nN (mnA (mkA T (rwith R l 0)) 0) ∧ Fr XQQ h r.2 ∧ Cache r.2 T R q) := by
      intro b hb
      have F3 : Fr [2015] h2 (wb_iu h2 20 0 15 (nN b)) := Fr_iu rfl
      rw [X_allWrong hA (XA_fr F3 rfl A2) (XE_fr F3 rfl E2)]
      simp only [Option.bind_some]
      have F4 : Fr [2015, 62] h2 (wb_iu (wb_iu h2 20 0 15 (nN b)) 62 0 l (nN (mnA (mkA T (rwith R l 0)) 0))) := Fr_trans (Fr_iu rfl) (Fr_iu rfl)
      refine Ok_some ⟨iu_at, Fr_trans (Fr_mono F12 rfl) (Fr_mono F4 rfl), ?_, fun k hk => ?_, ?_⟩
      · rw [iu_nt (by decide), iu_at]
        rcases hb with rfl | ⟨rfl, hb⟩
        · exact Or.inl rfl
        · refine Or.inr ⟨rfl, ?_, ?_⟩
          · have := XA_fr F4 rfl A2
            rw [hb, rwith_self] at this
            rw [hb, rwith_self]
            exact this
          · have := XE_fr F4 rfl E2
            rw [hb, rwith_self] at this
            rw [hb, rwith_self]
            exact this
      · by_cases z : k = l
        · rw [z, iu_at]; exact Or.inr rfl
        · rw [iu_ne z, iu_nt (by decide), Fr_i F12 (t := 62) (by rfl)]
          exact D2 k hk
      · have F5 : Fr (SA ++ SX ++ [2015, 62]) h (wb_iu (wb_iu h2 20 0 15 (nN b)) 62 0 l (nN (mnA (mkA T (rwith R l 0)) 0))) := Fr_trans (Fr_mono F12 rfl) (Fr_mono F4 rfl)
        rw [Fr_i F5 (t := 20) (k := 14) (by rfl)]
        rcases D3 with d | d
        · exact Or.inl d
        · exact Or.inr ⟨(Fr_i F5 (by rfl)).trans d.1, fun set hs gs => (Fr_i F5 (by rfl)).trans (d.2 set hs gs)⟩
    rw [l2]
    by_cases z : l = rlf R
    · rw [N_eq_t z]
      simp only [Bool.not_true, cond_false]
      refine Ok_w (fin 1 (Or.inr ⟨rfl, z⟩)) ?_
      intro r hr
      exact hr
    · rw [N_eq_f z (by omega) (by omega)]
      simp only [Bool.not_false, cond_true]
      exact fin 0 (Or.inl rfl)
  · simp (disch := omega) only [L_0, L_1, L_2, L_3, L_4, L_5, L_6, L_7, L_8, L_9, L_10, L_11, L_12, L_13, L_14, L_15, L_16, L_17, L_18, L_19, L_20, L_21, L_22, L_23, L_24, L_25, L_26, L_27, L_28, L_29, L_30, L_31, L_32, L_33, L_34, L_35, L_40, L_41, L_42, L_43, L_44, L_45, L_47, L_48, L_50, L_53, L_57, L_59, L_60, L_61, L_63, L_64, L_97, L_100, L_101, L_102, L_103, L_122, L_130, L_216, L_255, L_364, L_400, L_402, L_420, L_728, L_768, L_999, L_1000, L_1093, L_1872, L_2000, L_9999, L_12345, L_252645135, L_858993459, L_1103515245, L_1431655765, Lm_1, Lm_2, Lm_8, N_zero, N_cast, N_add, N_mul, N_sub, N_addM, N_lt_tp, N_lt_fp, N_le_tp, N_le_fp, N_eq_tp, N_eq_fp, MN_ltp, MN_lep, NM_ltp, NM_lep, NM_eqp, MN_eqp, MM_lt_tp, MM_lt_fp, MM_le_tp, MM_le_fp, MM_eq_tp, MM_eq_fp, N_cl, N_in_t, N_in_f, M_in, N_div, N_rem, N_nb0, N_nb1, cond_true, cond_false, Bool.not_true, Bool.not_false, Bool.and_true, Bool.true_and, Bool.and_false, Bool.false_and, decide_true, decide_false, Option.bind_some, Option.bind_none, e]
    exact Ok_some ⟨rfl, Fr_refl _ _, D0⟩
theorem M_meanRow {h h1 : wb_H} (C : Core h T R v q s B) (F1 : Fr [96, 1049, 1050] h h1) {R' : wR} (hR : R_ok T R') (H : Row h1 96 0 T R') {Q : Nat} (hQ : Q ≤ tn T) (h50 : h1.1 21 0 50 = nN Q) : Ok (q_M_meanNow sc h1) (fun r => r.1 = nN (mnA (mkA T R') Q) ∧ Fr MQQ h r.2) := by
  refine Ok_w (M_meanNow (mkA_ok C.1 hR) (MA_now C F1 rfl rfl hR H) hQ h50) ?_
  rintro r ⟨a, b⟩
  exact ⟨a, Fr_trans (Fr_mono F1 rfl) (Fr_mono b rfl)⟩
theorem M_meanWith {h : wb_H} (C : Core h T R v q s B) {l : Nat} (hl : l < 2 ^ tn T) : Ok (q_M_meanWith sc h (nN l)) (fun r => r.1 = nN (mnA (mkA T (rwith R (rlf R ||| l) 0)) 0) ∧ Fr MQQ h r.2) := by
  have p64 := pow2_64 C.1.1
  have rl := C.2.1.2.2.2.2
  rw [q_M_meanWith_eq]
  refine Ok_bind (M_copies C) ?_
  rintro h1 ⟨F1, g1, g2, g3⟩
  have r1 := Row_now C g1
  have e12 : h1.1 96 0 12 = nN (rlf R) := by have := r1.2.2; rwa [Nat.zero_add] at this
  simp (disch := omega) only [L_0, L_1, L_2, L_3, L_4, L_5, L_6, L_7, L_8, L_9, L_10, L_11, L_12, L_13, L_14, L_15, L_16, L_17, L_18, L_19, L_20, L_21, L_22, L_23, L_24, L_25, L_26, L_27, L_28, L_29, L_30, L_31, L_32, L_33, L_34, L_35, L_40, L_41, L_42, L_43, L_44, L_45, L_47, L_48, L_50, L_53, L_57, L_59, L_60, L_61, L_63, L_64, L_97, L_100, L_101, L_102, L_103, L_122, L_130, L_216, L_255, L_364, L_400, L_402, L_420, L_728, L_768, L_999, L_1000, L_1093, L_1872, L_2000, L_9999, L_12345, L_252645135, L_858993459, L_1103515245, L_1431655765, Lm_1, Lm_2, Lm_8, N_zero, N_cast, N_add, N_mul, N_sub, N_addM, N_lt_tp, N_lt_fp, N_le_tp, N_le_fp, N_eq_tp, N_eq_fp, MN_ltp, MN_lep, NM_ltp, NM_lep, NM_eqp, MN_eqp, MM_lt_tp, MM_lt_fp, MM_le_tp, MM_le_fp, MM_eq_tp, MM_eq_fp, N_cl, N_in_t, N_in_f, M_in, N_div, N_rem, N_nb0, N_nb1, cond_true, cond_false, Bool.not_true, Bool.not_false, Bool.and_true, Bool.true_and, Bool.and_false, Bool.false_and, decide_true, decide_false, Option.bind_some, Option.bind_none, e12, bt_or2 (rlf R) (show rlf R < 64 by omega) l (show l < 64 by omega)]
  have hlt : rlf R ||| l < 2 ^ tn T := Nat.or_lt_two_pow rl hl
  have F2 : Fr [96, 1049, 1050] h (wb_iu h1 96 0 12 (nN (rlf R ||| l))) := Fr_trans F1 (Fr_iu rfl)
  have n6 := C.1.1
  have r2 : Row (wb_iu h1 96 0 12 (nN (rlf R ||| l))) 96 0 T (rwith R (rlf R ||| l) 0) := by
    refine ⟨fun i hi => ?_, fun i hi => ?_, ?_⟩
    · rw [iu_ne (by omega)]; exact r1.1 i hi
    · rw [iu_ne (by omega)]
      have := r1.2.1 i hi
      rw [this]
      have z : tb 0 i = 0 := by unfold tb; rw [Nat.zero_div]
      show _ = ovI (if tb 0 i = 1 then 0 else rov R i)
      rw [z, if_neg (by decide)]
    · rw [Nat.zero_add, iu_at]
      rfl
  refine Ok_bind (M_meanRow C F2 (rwith_ok C.2.1 hlt) r2 (Nat.zero_le _) (by rw [iu_nt (by decide)]; exact g3)) ?_
  rintro r ⟨a, b⟩
  exact Ok_some ⟨a, b⟩
end
