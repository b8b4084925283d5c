/-! The class behind a fault: nothing that it does matters, and nothing goes wrong. -/
def fnX (f : Nat → Int64) (v : Int64) : Nat → Nat → Int32
  | 0, _ => nM 1
  | r + 1, j => if f j = v then nN j else fnX f v r (j + 1)
theorem fnX_or (f : Nat → Int64) (v : Int64) : ∀ r j, fnX f v r j = nM 1 ∨ ∃ i, j ≤ i ∧ i < j + r ∧ fnX f v r j = nN i
  | 0, _ => Or.inl rfl
  | r + 1, j => by
    rw [fnX]
    by_cases z : f j = v
    · rw [if_pos z]
      exact Or.inr ⟨j, Nat.le_refl _, by omega, rfl⟩
    · rw [if_neg z]
      rcases fnX_or f v r (j + 1) with e | ⟨i, a, b, e⟩
      · exact Or.inl e
      · exact Or.inr ⟨i, by omega, by omega, e⟩
theorem fnX_congr {f g : Nat → Int64} {v : Int64} : ∀ r j, (∀ i, j ≤ i → i < j + r → f i = g i) → fnX f v r j = fnX g v r j
  | 0, _, _ => rfl
  | r + 1, j, h => by
    rw [fnX, fnX, h j (Nat.le_refl _) (by omega), fnX_congr r (j + 1) (fun i a b => h i (by omega) (by omega))]
def DS (q f e : Nat) (x : wb_H) : Prop := q < 2 ∧ DdX f e x ∧ x.2.2 16 0 2 = q + 1 ∧ (∃ z, z ≤ 402 ∧ x.1 13 q 6 = nN z) ∧ ∃ n, n ≤ 6 ∧ x.1 15 q 0 = nN n
def LDQ : List Nat := [4005, 4006, 4007, 13, 41, 42, 43, 48, 49, 50, 51, 52, 53]
def DQ (q f e : Nat) (x x' : wb_H) : Prop := Fr LDQ x x' ∧ FX q x x' ∧ DS q f e x'
theorem DQ_refl {q f e : Nat} {x : wb_H} (D : DS q f e x) : DQ q f e x x := ⟨Fr_refl _ _, FX_refl _ _, D⟩
theorem DQ_trans {q f e : Nat} {x x1 x2 : wb_H} (a : DQ q f e x x1) (b : DQ q f e x1 x2) : DQ q f e x x2 := ⟨Fr_trans a.1 b.1, FX_trans a.2.1 b.2.1, b.2.2⟩
theorem DS_keep {q f e : Nat} {L : List Nat} {x x' : wb_H} (F : Fr L x x') (d : wb_dj [4002, 4003, 4008, 4009, 15] L = true) (hz : ∃ z, z ≤ 402 ∧ x'.1 13 q 6 = nN z) (D : DS q f e x) : DS q f e x' := by
  have g : ∀ y, wb_mem y [4002, 4003, 4008, 4009, 15] = true → wb_mem y L = false := fun y hy => wb_dj_mem d hy
  obtain ⟨d1, d2, d3, -, n, hn, d5⟩ := D
  exact ⟨d1, DdX_fr F (g 4008 rfl) (g 4009 rfl) (g 4003 rfl) d2, (Fr_m F (by exact g 4002 rfl)).trans d3, hz, n, hn, (Fr_i F (by exact g 15 rfl)).trans d5⟩
theorem DS_keep13 {q f e : Nat} {L : List Nat} {x x' : wb_H} (F : Fr L x x') (d : wb_dj [13, 4002, 4003, 4008, 4009, 15] L = true) (D : DS q f e x) : DS q f e x' := by
  have g : ∀ y, wb_mem y [13, 4002, 4003, 4008, 4009, 15] = true → wb_mem y L = false := fun y hy => wb_dj_mem d hy
  obtain ⟨d1, d2, d3, ⟨z, hz, d4⟩, n, hn, d5⟩ := D
  exact ⟨d1, DdX_fr F (g 4008 rfl) (g 4009 rfl) (g 4003 rfl) d2, (Fr_m F (by exact g 4002 rfl)).trans d3, ⟨z, hz, (Fr_i F (by exact g 13 rfl)).trans d4⟩, n, hn, (Fr_i F (by exact g 15 rfl)).trans d5⟩
section
variable {sc : wb_X} {q f e : Nat}
theorem dX_fail {x : wb_H} (D : DdX f e x) (n : Int32) : q_Reader_fail sc x n = some x := by
  obtain ⟨d1, d2, d3, d4, -⟩ := D
  rw [q_Reader_fail_eq]
  simp (disch := omega) only [L_0, L_1, L_2, L_3, L_4, L_5, L_6, L_7, L_8, L_9, L_10, L_11, L_12, L_13, L_14, L_15, L_16, L_17, L_18, L_19, L_20, L_21, L_22, L_23, L_24, L_25, L_26, L_27, L_28, L_29, L_30, L_31, L_32, L_33, L_34, L_35, L_40, L_41, L_42, L_43, L_44, L_45, L_47, L_48, L_50, L_53, L_57, L_59, L_60, L_61, L_63, L_64, L_97, L_100, L_101, L_102, L_103, L_122, L_130, L_216, L_255, L_364, L_400, L_402, L_420, L_728, L_768, L_999, L_1000, L_1093, L_1872, L_2000, L_9999, L_12345, L_252645135, L_858993459, L_1103515245, L_1431655765, Lm_1, Lm_2, Lm_8, N_zero, N_cast, N_add, N_mul, N_sub, N_addM, N_lt_tp, N_lt_fp, N_le_tp, N_le_fp, N_eq_tp, N_eq_fp, MN_ltp, MN_lep, NM_ltp, NM_lep, NM_eqp, MN_eqp, MM_lt_tp, MM_lt_fp, MM_le_tp, MM_le_fp, MM_eq_tp, MM_eq_fp, N_cl, N_in_t, N_in_f, M_in, N_div, N_rem, N_nb0, N_nb1, cond_true, cond_false, Bool.not_true, Bool.not_false, Bool.and_true, Bool.true_and, Bool.and_false, Bool.false_and, decide_true, decide_false, Option.bind_some, Option.bind_none, d3]
theorem dX_take {x : wb_H} (D : DdX f e x) (a : Int32) : q_Reader_take sc x a = some x := by
  have ff := dX_fail (sc := sc) D
  obtain ⟨d1, d2, d3, d4, p, hp, d5⟩ := D
  rw [q_Reader_take_eq]
  by_cases y : x.1 16 0 4 = a
  · by_cases z : p < 400
    · simp (disch := omega) only [eq_true y, L_0, L_1, L_2, L_3, L_4, L_5, L_6, L_7, L_8, L_9, L_10, L_11, L_12, L_13, L_14, L_15, L_16, L_17, L_18, L_19, L_20, L_21, L_22, L_23, L_24, L_25, L_26, L_27, L_28, L_29, L_30, L_31, L_32, L_33, L_34, L_35, L_40, L_41, L_42, L_43, L_44, L_45, L_47, L_48, L_50, L_53, L_57, L_59, L_60, L_61, L_63, L_64, L_97, L_100, L_101, L_102, L_103, L_122, L_130, L_216, L_255, L_364, L_400, L_402, L_420, L_728, L_768, L_999, L_1000, L_1093, L_1872, L_2000, L_9999, L_12345, L_252645135, L_858993459, L_1103515245, L_1431655765, Lm_1, Lm_2, Lm_8, N_zero, N_cast, N_add, N_mul, N_sub, N_addM, N_lt_tp, N_lt_fp, N_le_tp, N_le_fp, N_eq_tp, N_eq_fp, MN_ltp, MN_lep, NM_ltp, NM_lep, NM_eqp, MN_eqp, MM_lt_tp, MM_lt_fp, MM_le_tp, MM_le_fp, MM_eq_tp, MM_eq_fp, N_cl, N_in_t, N_in_f, M_in, N_div, N_rem, N_nb0, N_nb1, cond_true, cond_false, Bool.not_true, Bool.not_false, Bool.and_true, Bool.true_and, Bool.and_false, Bool.false_and, decide_true, decide_false, Option.bind_some, Option.bind_none, d3, d5]
    · simp (disch := omega) only [eq_true y, L_0, L_1, L_2, L_3, L_4, L_5, L_6, L_7, L_8, L_9, L_10, L_11, L_12, L_13, L_14, L_15, L_16, L_17, L_18, L_19, L_20, L_21, L_22, L_23, L_24, L_25, L_26, L_27, L_28, L_29, L_30, L_31, L_32, L_33, L_34, L_35, L_40, L_41, L_42, L_43, L_44, L_45, L_47, L_48, L_50, L_53, L_57, L_59, L_60, L_61, L_63, L_64, L_97, L_100, L_101, L_102, L_103, L_122, L_130, L_216, L_255, L_364, L_400, L_402, L_420, L_728, L_768, L_999, L_1000, L_1093, L_1872, L_2000, L_9999, L_12345, L_252645135, L_858993459, L_1103515245, L_1431655765, Lm_1, Lm_2, Lm_8, N_zero, N_cast, N_add, N_mul, N_sub, N_addM, N_lt_tp, N_lt_fp, N_le_tp, N_le_fp, N_eq_tp, N_eq_fp, MN_ltp, MN_lep, NM_ltp, NM_lep, NM_eqp, MN_eqp, MM_lt_tp, MM_lt_fp, MM_le_tp, MM_le_fp, MM_eq_tp, MM_eq_fp, N_cl, N_in_t, N_in_f, M_in, N_div, N_rem, N_nb0, N_nb1, cond_true, cond_false, Bool.not_true, Bool.not_false, Bool.and_true, Bool.true_and, Bool.and_false, Bool.false_and, decide_true, decide_false, Option.bind_some, Option.bind_none, d3, d5, ff]
  · simp (disch := omega) only [eq_false y, L_0, L_1, L_2, L_3, L_4, L_5, L_6, L_7, L_8, L_9, L_10, L_11, L_12, L_13, L_14, L_15, L_16, L_17, L_18, L_19, L_20, L_21, L_22, L_23, L_24, L_25, L_26, L_27, L_28, L_29, L_30, L_31, L_32, L_33, L_34, L_35, L_40, L_41, L_42, L_43, L_44, L_45, L_47, L_48, L_50, L_53, L_57, L_59, L_60, L_61, L_63, L_64, L_97, L_100, L_101, L_102, L_103, L_122, L_130, L_216, L_255, L_364, L_400, L_402, L_420, L_728, L_768, L_999, L_1000, L_1093, L_1872, L_2000, L_9999, L_12345, L_252645135, L_858993459, L_1103515245, L_1431655765, Lm_1, Lm_2, Lm_8, N_zero, N_cast, N_add, N_mul, N_sub, N_addM, N_lt_tp, N_lt_fp, N_le_tp, N_le_fp, N_eq_tp, N_eq_fp, MN_ltp, MN_lep, NM_ltp, NM_lep, NM_eqp, MN_eqp, MM_lt_tp, MM_lt_fp, MM_le_tp, MM_le_fp, MM_eq_tp, MM_eq_fp, N_cl, N_in_t, N_in_f, M_in, N_div, N_rem, N_nb0, N_nb1, cond_true, cond_false, Bool.not_true, Bool.not_false, Bool.and_true, Bool.true_and, Bool.and_false, Bool.false_and, decide_true, decide_false, Option.bind_some, Option.bind_none, ff]
theorem X_later_ok {x : wb_H} {p : Nat} (h3 : x.1 16 0 3 = nN p) (hp : p ≤ 401) (n : Int32) : Ok (q_Reader_failLater sc x n) (fun x' => Fr [4006, 4007] x x') := by
  rw [q_Reader_failLater_eq]
  refine Ok_c (fun _ => Ok_some (Fr_refl _ _)) (fun _ => ?_)
  simp (disch := omega) only [L_0, L_1, L_2, L_3, L_4, L_5, L_6, L_7, L_8, L_9, L_10, L_11, L_12, L_13, L_14, L_15, L_16, L_17, L_18, L_19, L_20, L_21, L_22, L_23, L_24, L_25, L_26, L_27, L_28, L_29, L_30, L_31, L_32, L_33, L_34, L_35, L_40, L_41, L_42, L_43, L_44, L_45, L_47, L_48, L_50, L_53, L_57, L_59, L_60, L_61, L_63, L_64, L_97, L_100, L_101, L_102, L_103, L_122, L_130, L_216, L_255, L_364, L_400, L_402, L_420, L_728, L_768, L_999, L_1000, L_1093, L_1872, L_2000, L_9999, L_12345, L_252645135, L_858993459, L_1103515245, L_1431655765, Lm_1, Lm_2, Lm_8, N_zero, N_cast, N_add, N_mul, N_sub, N_addM, N_lt_tp, N_lt_fp, N_le_tp, N_le_fp, N_eq_tp, N_eq_fp, MN_ltp, MN_lep, NM_ltp, NM_lep, NM_eqp, MN_eqp, MM_lt_tp, MM_lt_fp, MM_le_tp, MM_le_fp, MM_eq_tp, MM_eq_fp, N_cl, N_in_t, N_in_f, M_in, N_div, N_rem, N_nb0, N_nb1, cond_true, cond_false, Bool.not_true, Bool.not_false, Bool.and_true, Bool.true_and, Bool.and_false, Bool.false_and, decide_true, decide_false, Option.bind_some, Option.bind_none, iu_ne (show 3 ≠ 6 by decide), h3]
  exact Ok_some (Fr_trans (Fr_iu rfl) (Fr_iu rfl))
theorem dq_take {x : wb_H} (D : DS q f e x) (a : Int32) : Ok (q_Reader_take sc x a) (DQ q f e x) := by
  rw [dX_take D.2.1]
  exact Ok_some (DQ_refl D)
theorem dq_later {x : wb_H} (D : DS q f e x) (a : Int32) : Ok (q_Reader_failLater sc x a) (DQ q f e x) := by
  obtain ⟨p, hp, h3⟩ := D.2.1.2.2.2.2
  refine Ok_w (X_later_ok h3 hp a) ?_
  intro x' F
  exact ⟨Fr_mono F rfl, FX_fr F rfl, DS_keep13 F rfl D⟩
theorem dq_int {x : wb_H} (D : DS q f e x) (a : Int32) : Ok (q_Reader_takeInt sc x a) (fun r => DQ q f e x r.2) := by
  obtain ⟨p, hp, h3⟩ := D.2.1.2.2.2.2
  rw [q_Reader_takeInt_eq]
  simp (disch := omega) only [h3, N_in_t, cond_true]
  refine Ok_c (fun _ => ?_) (fun _ => ?_)
  · refine Ok_bind (dq_take D _) ?_
    intro x' H
    exact Ok_some H
  · refine Ok_c (fun _ => ?_) (fun _ => ?_)
    · refine Ok_bind (dq_take D _) ?_
      intro x' H
      exact Ok_some H
    · refine Ok_bind (dq_later D _) ?_
      intro x' H
      refine Ok_bind (dq_take H.2.2 _) ?_
      intro x2 H2
      exact Ok_some (DQ_trans H H2)
theorem X_emit {x : wb_H} {z : Nat} (hq : q < 2) (hz : z ≤ 401) (h6 : x.1 13 q 6 = nN z) (a b : Int32) : q_Laws_emit sc x q a b = some (nN z, wb_iu (wb_iu (wb_iu x 41 q z a) 42 q z b) 13 q 6 (nN (z + 1))) := by
  have g : decide (q < 2) = true := decide_eq_true hq
  rw [q_Laws_emit_eq]
  simp (disch := omega) only [L_0, L_1, L_2, L_3, L_4, L_5, L_6, L_7, L_8, L_9, L_10, L_11, L_12, L_13, L_14, L_15, L_16, L_17, L_18, L_19, L_20, L_21, L_22, L_23, L_24, L_25, L_26, L_27, L_28, L_29, L_30, L_31, L_32, L_33, L_34, L_35, L_40, L_41, L_42, L_43, L_44, L_45, L_47, L_48, L_50, L_53, L_57, L_59, L_60, L_61, L_63, L_64, L_97, L_100, L_101, L_102, L_103, L_122, L_130, L_216, L_255, L_364, L_400, L_402, L_420, L_728, L_768, L_999, L_1000, L_1093, L_1872, L_2000, L_9999, L_12345, L_252645135, L_858993459, L_1103515245, L_1431655765, Lm_1, Lm_2, Lm_8, N_zero, N_cast, N_add, N_mul, N_sub, N_addM, N_lt_tp, N_lt_fp, N_le_tp, N_le_fp, N_eq_tp, N_eq_fp, MN_ltp, MN_lep, NM_ltp, NM_lep, NM_eqp, MN_eqp, MM_lt_tp, MM_lt_fp, MM_le_tp, MM_le_fp, MM_eq_tp, MM_eq_fp, N_cl, N_in_t, N_in_f, M_in, N_div, N_rem, N_nb0, N_nb1, cond_true, cond_false, Bool.not_true, Bool.not_false, Bool.and_true, Bool.true_and, Bool.and_false, Bool.false_and, decide_true, decide_false, Option.bind_some, Option.bind_none, g, h6, iu_nt (show 13 ≠ 41 by decide), iu_nt (show 13 ≠ 42 by decide)]
  rw [q_Laws_emit_L47_eq]
theorem X_emit_full {x : wb_H} (hq : q < 2) (h6 : x.1 13 q 6 = nN 402) (a b : Int32) : q_Laws_emit sc x q a b = some (nN 402, x) := by
  have g : decide (q < 2) = true := decide_eq_true hq
  rw [q_Laws_emit_eq]
  simp (disch := omega) only [L_0, L_1, L_2, L_3, L_4, L_5, L_6, L_7, L_8, L_9, L_10, L_11, L_12, L_13, L_14, L_15, L_16, L_17, L_18, L_19, L_20, L_21, L_22, L_23, L_24, L_25, L_26, L_27, L_28, L_29, L_30, L_31, L_32, L_33, L_34, L_35, L_40, L_41, L_42, L_43, L_44, L_45, L_47, L_48, L_50, L_53, L_57, L_59, L_60, L_61, L_63, L_64, L_97, L_100, L_101, L_102, L_103, L_122, L_130, L_216, L_255, L_364, L_400, L_402, L_420, L_728, L_768, L_999, L_1000, L_1093, L_1872, L_2000, L_9999, L_12345, L_252645135, L_858993459, L_1103515245, L_1431655765, Lm_1, Lm_2, Lm_8, N_zero, N_cast, N_add, N_mul, N_sub, N_addM, N_lt_tp, N_lt_fp, N_le_tp, N_le_fp, N_eq_tp, N_eq_fp, MN_ltp, MN_lep, NM_ltp, NM_lep, NM_eqp, MN_eqp, MM_lt_tp, MM_lt_fp, MM_le_tp, MM_le_fp, MM_eq_tp, MM_eq_fp, N_cl, N_in_t, N_in_f, M_in, N_div, N_rem, N_nb0, N_nb1, cond_true, cond_false, Bool.not_true, Bool.not_false, Bool.and_true, Bool.true_and, Bool.and_false, Bool.false_and, decide_true, decide_false, Option.bind_some, Option.bind_none, g, h6]
  rw [q_Laws_emit_L47_eq]
theorem dq_emit {x : wb_H} (D : DS q f e x) (a b : Int32) : Ok (q_Laws_emit sc x q a b) (fun r => DQ q f e x r.2 ∧ Fr [13, 41, 42] x r.2 ∧ ∃ y, y ≤ 402 ∧ r.1 = nN y) := by
  obtain ⟨z, hz, h6⟩ := D.2.2.2.1
  by_cases k : z = 402
  · subst k
    rw [X_emit_full D.1 h6]
    exact Ok_some ⟨DQ_refl D, Fr_refl _ _, 402, by decide, rfl⟩
  · rw [X_emit D.1 (by omega) h6]
    have F : Fr [13, 41, 42] x (wb_iu (wb_iu (wb_iu x 41 q z a) 42 q z b) 13 q 6 (nN (z + 1))) := Fr_trans (Fr_trans (Fr_iu rfl) (Fr_iu rfl)) (Fr_iu rfl)
    refine Ok_some ⟨⟨Fr_mono F rfl, FX_trans (FX_trans (FX_iu (Or.inr ⟨rfl, rfl⟩)) (FX_iu (Or.inr ⟨rfl, rfl⟩))) (FX_iu (Or.inr ⟨rfl, rfl⟩)), DS_keep F rfl ⟨z + 1, by omega, iu_at⟩ D⟩, F, z, hz, rfl⟩
theorem dq_aim {x : wb_H} (D : DS q f e x) {y : Nat} (hy : y ≤ 402) : Ok (q_Laws_aim sc x q (nN y)) (DQ q f e x) := by
  obtain ⟨z, hz, h6⟩ := D.2.2.2.1
  have g : decide (q < 2) = true := decide_eq_true D.1
  rw [q_Laws_aim_eq]
  by_cases k : z ≤ y
  · simp (disch := omega) only [L_0, L_1, L_2, L_3, L_4, L_5, L_6, L_7, L_8, L_9, L_10, L_11, L_12, L_13, L_14, L_15, L_16, L_17, L_18, L_19, L_20, L_21, L_22, L_23, L_24, L_25, L_26, L_27, L_28, L_29, L_30, L_31, L_32, L_33, L_34, L_35, L_40, L_41, L_42, L_43, L_44, L_45, L_47, L_48, L_50, L_53, L_57, L_59, L_60, L_61, L_63, L_64, L_97, L_100, L_101, L_102, L_103, L_122, L_130, L_216, L_255, L_364, L_400, L_402, L_420, L_728, L_768, L_999, L_1000, L_1093, L_1872, L_2000, L_9999, L_12345, L_252645135, L_858993459, L_1103515245, L_1431655765, Lm_1, Lm_2, Lm_8, N_zero, N_cast, N_add, N_mul, N_sub, N_addM, N_lt_tp, N_lt_fp, N_le_tp, N_le_fp, N_eq_tp, N_eq_fp, MN_ltp, MN_lep, NM_ltp, NM_lep, NM_eqp, MN_eqp, MM_lt_tp, MM_lt_fp, MM_le_tp, MM_le_fp, MM_eq_tp, MM_eq_fp, N_cl, N_in_t, N_in_f, M_in, N_div, N_rem, N_nb0, N_nb1, cond_true, cond_false, Bool.not_true, Bool.not_false, Bool.and_true, Bool.true_and, Bool.and_false, Bool.false_and, decide_true, decide_false, Option.bind_some, Option.bind_none, g, h6]
    exact Ok_some (DQ_refl D)
  · simp (disch := omega) only [L_0, L_1, L_2, L_3, L_4, L_5, L_6, L_7, L_8, L_9, L_10, L_11, L_12, L_13, L_14, L_15, L_16, L_17, L_18, L_19, L_20, L_21, L_22, L_23, L_24, L_25, L_26, L_27, L_28, L_29, L_30, L_31, L_32, L_33, L_34, L_35, L_40, L_41, L_42, L_43, L_44, L_45, L_47, L_48, L_50, L_53, L_57, L_59, L_60, L_61, L_63, L_64, L_97, L_100, L_101, L_102, L_103, L_122, L_130, L_216, L_255, L_364, L_400, L_402, L_420, L_728, L_768, L_999, L_1000, L_1093, L_1872, L_2000, L_9999, L_12345, L_252645135, L_858993459, L_1103515245, L_1431655765, Lm_1, Lm_2, Lm_8, N_zero, N_cast, N_add, N_mul, N_sub, N_addM, N_lt_tp, N_lt_fp, N_le_tp, N_le_fp, N_eq_tp, N_eq_fp, MN_ltp, MN_lep, NM_ltp, NM_lep, NM_eqp, MN_eqp, MM_lt_tp, MM_lt_fp, MM_le_tp, MM_le_fp, MM_eq_tp, MM_eq_fp, N_cl, N_in_t, N_in_f, M_in, N_div, N_rem, N_nb0, N_nb1, cond_true, cond_false, Bool.not_true, Bool.not_false, Bool.and_true, Bool.true_and, Bool.and_false, Bool.false_and, decide_true, decide_false, Option.bind_some, Option.bind_none, g, h6]
    exact Ok_some ⟨Fr_iu rfl, FX_iu (Or.inr ⟨rfl, rfl⟩), DS_keep13 (L := [42]) (Fr_iu rfl) rfl D⟩
theorem X_binding (x : wb_H) (v : Int32) : ∃ b, b ≤ 2 ∧ q_Reader_bindingOf sc x v = some (nN b, x) := by
  rw [q_Reader_bindingOf_eq]
  by_cases y1 : v = nN 43
  · exact ⟨1, by decide, by simp only [L_0, L_1, L_2, L_3, L_4, L_5, L_6, L_7, L_8, L_9, L_10, L_11, L_12, L_13, L_14, L_15, L_16, L_17, L_18, L_19, L_20, L_21, L_22, L_23, L_24, L_25, L_26, L_27, L_28, L_29, L_30, L_31, L_32, L_33, L_34, L_35, L_40, L_41, L_42, L_43, L_44, L_45, L_47, L_48, L_50, L_53, L_57, L_59, L_60, L_61, L_63, L_64, L_97, L_100, L_101, L_102, L_103, L_122, L_130, L_216, L_255, L_364, L_400, L_402, L_420, L_728, L_768, L_999, L_1000, L_1093, L_1872, L_2000, L_9999, L_12345, L_252645135, L_858993459, L_1103515245, L_1431655765, Lm_1, Lm_2, Lm_8, eq_true y1, cond_true, cond_false, Bool.not_true, Bool.not_false, Bool.and_true, Bool.true_and, Bool.and_false, Bool.false_and, decide_true, decide_false, Option.bind_some, Option.bind_none]⟩
  · by_cases y2 : v = nN 45
    · exact ⟨1, by decide, by simp only [L_0, L_1, L_2, L_3, L_4, L_5, L_6, L_7, L_8, L_9, L_10, L_11, L_12, L_13, L_14, L_15, L_16, L_17, L_18, L_19, L_20, L_21, L_22, L_23, L_24, L_25, L_26, L_27, L_28, L_29, L_30, L_31, L_32, L_33, L_34, L_35, L_40, L_41, L_42, L_43, L_44, L_45, L_47, L_48, L_50, L_53, L_57, L_59, L_60, L_61, L_63, L_64, L_97, L_100, L_101, L_102, L_103, L_122, L_130, L_216, L_255, L_364, L_400, L_402, L_420, L_728, L_768, L_999, L_1000, L_1093, L_1872, L_2000, L_9999, L_12345, L_252645135, L_858993459, L_1103515245, L_1431655765, Lm_1, Lm_2, Lm_8, eq_false y1, eq_true y2, cond_true, cond_false, Bool.not_true, Bool.not_false, Bool.and_true, Bool.true_and, Bool.and_false, Bool.false_and, decide_true, decide_false, Option.bind_some, Option.bind_none]⟩
    · by_cases y3 : v = nN 42
      · exact ⟨2, by decide, by simp only [L_0, L_1, L_2, L_3, L_4, L_5, L_6, L_7, L_8, L_9, L_10, L_11, L_12, L_13, L_14, L_15, L_16, L_17, L_18, L_19, L_20, L_21, L_22, L_23, L_24, L_25, L_26, L_27, L_28, L_29, L_30, L_31, L_32, L_33, L_34, L_35, L_40, L_41, L_42, L_43, L_44, L_45, L_47, L_48, L_50, L_53, L_57, L_59, L_60, L_61, L_63, L_64, L_97, L_100, L_101, L_102, L_103, L_122, L_130, L_216, L_255, L_364, L_400, L_402, L_420, L_728, L_768, L_999, L_1000, L_1093, L_1872, L_2000, L_9999, L_12345, L_252645135, L_858993459, L_1103515245, L_1431655765, Lm_1, Lm_2, Lm_8, eq_false y1, eq_false y2, eq_true y3, cond_true, cond_false, Bool.not_true, Bool.not_false, Bool.and_true, Bool.true_and, Bool.and_false, Bool.false_and, decide_true, decide_false, Option.bind_some, Option.bind_none]⟩
      · by_cases y4 : v = nN 47
        · exact ⟨2, by decide, by simp only [L_0, L_1, L_2, L_3, L_4, L_5, L_6, L_7, L_8, L_9, L_10, L_11, L_12, L_13, L_14, L_15, L_16, L_17, L_18, L_19, L_20, L_21, L_22, L_23, L_24, L_25, L_26, L_27, L_28, L_29, L_30, L_31, L_32, L_33, L_34, L_35, L_40, L_41, L_42, L_43, L_44, L_45, L_47, L_48, L_50, L_53, L_57, L_59, L_60, L_61, L_63, L_64, L_97, L_100, L_101, L_102, L_103, L_122, L_130, L_216, L_255, L_364, L_400, L_402, L_420, L_728, L_768, L_999, L_1000, L_1093, L_1872, L_2000, L_9999, L_12345, L_252645135, L_858993459, L_1103515245, L_1431655765, Lm_1, Lm_2, Lm_8, eq_false y1, eq_false y2, eq_false y3, eq_true y4, cond_true, cond_false, Bool.not_true, Bool.not_false, Bool.and_true, Bool.true_and, Bool.and_false, Bool.false_and, decide_true, decide_false, Option.bind_some, Option.bind_none]⟩
        · exact ⟨0, by decide, by simp only [L_0, L_1, L_2, L_3, L_4, L_5, L_6, L_7, L_8, L_9, L_10, L_11, L_12, L_13, L_14, L_15, L_16, L_17, L_18, L_19, L_20, L_21, L_22, L_23, L_24, L_25, L_26, L_27, L_28, L_29, L_30, L_31, L_32, L_33, L_34, L_35, L_40, L_41, L_42, L_43, L_44, L_45, L_47, L_48, L_50, L_53, L_57, L_59, L_60, L_61, L_63, L_64, L_97, L_100, L_101, L_102, L_103, L_122, L_130, L_216, L_255, L_364, L_400, L_402, L_420, L_728, L_768, L_999, L_1000, L_1093, L_1872, L_2000, L_9999, L_12345, L_252645135, L_858993459, L_1103515245, L_1431655765, Lm_1, Lm_2, Lm_8, eq_false y1, eq_false y2, eq_false y3, eq_false y4, cond_true, cond_false, Bool.not_true, Bool.not_false, Bool.and_true, Bool.true_and, Bool.and_false, Bool.false_and, decide_true, decide_false, Option.bind_some, Option.bind_none]⟩
theorem X_emitW_L0 (x : wb_H) (a : Int32) : q_Reader_emitWaiting sc x a = q_Reader_emitWaiting_L0 sc x a := by
  rw [q_Reader_emitWaiting_eq, q_Reader_emitWaiting_L0_eq]
theorem dq_emitW (a : Int32) : ∀ w, w ≤ 400 → ∀ x, DS q f e x → x.1 16 0 5 = nN w → Ok (q_Reader_emitWaiting_L0 sc x a) (fun x' => DQ q f e x x' ∧ Fr [13, 41, 42, 4005] x x' ∧ ∃ w', w' ≤ w ∧ x'.1 16 0 5 = nN w') := by
  intro w
  induction w with
  | zero =>
    intro _ x D h5
    rw [q_Reader_emitWaiting_L0_eq]
    simp (disch := omega) only [L_0, L_1, L_2, L_3, L_4, L_5, L_6, L_7, L_8, L_9, L_10, L_11, L_12, L_13, L_14, L_15, L_16, L_17, L_18, L_19, L_20, L_21, L_22, L_23, L_24, L_25, L_26, L_27, L_28, L_29, L_30, L_31, L_32, L_33, L_34, L_35, L_40, L_41, L_42, L_43, L_44, L_45, L_47, L_48, L_50, L_53, L_57, L_59, L_60, L_61, L_63, L_64, L_97, L_100, L_101, L_102, L_103, L_122, L_130, L_216, L_255, L_364, L_400, L_402, L_420, L_728, L_768, L_999, L_1000, L_1093, L_1872, L_2000, L_9999, L_12345, L_252645135, L_858993459, L_1103515245, L_1431655765, Lm_1, Lm_2, Lm_8, N_zero, N_cast, N_add, N_mul, N_sub, N_addM, N_lt_tp, N_lt_fp, N_le_tp, N_le_fp, N_eq_tp, N_eq_fp, MN_ltp, MN_lep, NM_ltp, NM_lep, NM_eqp, MN_eqp, MM_lt_tp, MM_lt_fp, MM_le_tp, MM_le_fp, MM_eq_tp, MM_eq_fp, N_cl, N_in_t, N_in_f, M_in, N_div, N_rem, N_nb0, N_nb1, cond_true, cond_false, Bool.not_true, Bool.not_false, Bool.and_true, Bool.true_and, Bool.and_false, Bool.false_and, decide_true, decide_false, Option.bind_some, Option.bind_none, h5]
    exact Ok_some ⟨DQ_refl D, Fr_refl _ _, 0, Nat.le_refl _, h5⟩
  | succ w ih =>
    intro hw x D h5
    have g1 : decide (0 < q + 1) = true := decide_eq_true (by omega)
    have g2 : decide (q < 2) = true := decide_eq_true D.1
    obtain ⟨b, hb, eb⟩ := X_binding (sc := sc) x (x.1 53 0 w)
    rw [q_Reader_emitWaiting_L0_eq]
    simp (disch := omega) only [L_0, L_1, L_2, L_3, L_4, L_5, L_6, L_7, L_8, L_9, L_10, L_11, L_12, L_13, L_14, L_15, L_16, L_17, L_18, L_19, L_20, L_21, L_22, L_23, L_24, L_25, L_26, L_27, L_28, L_29, L_30, L_31, L_32, L_33, L_34, L_35, L_40, L_41, L_42, L_43, L_44, L_45, L_47, L_48, L_50, L_53, L_57, L_59, L_60, L_61, L_63, L_64, L_97, L_100, L_101, L_102, L_103, L_122, L_130, L_216, L_255, L_364, L_400, L_402, L_420, L_728, L_768, L_999, L_1000, L_1093, L_1872, L_2000, L_9999, L_12345, L_252645135, L_858993459, L_1103515245, L_1431655765, Lm_1, Lm_2, Lm_8, N_zero, N_cast, N_add, N_mul, N_sub, N_addM, N_lt_tp, N_lt_fp, N_le_tp, N_le_fp, N_eq_tp, N_eq_fp, MN_ltp, MN_lep, NM_ltp, NM_lep, NM_eqp, MN_eqp, MM_lt_tp, MM_lt_fp, MM_le_tp, MM_le_fp, MM_eq_tp, MM_eq_fp, N_cl, N_in_t, N_in_f, M_in, N_div, N_rem, N_nb0, N_nb1, cond_true, cond_false, Bool.not_true, Bool.not_false, Bool.and_true, Bool.true_and, Bool.and_false, Bool.false_and, decide_true, decide_false, Option.bind_some, Option.bind_none, h5, Nat.add_sub_cancel, eb]
    refine Ok_c (fun _ => Ok_some ⟨DQ_refl D, Fr_refl _ _, w + 1, Nat.le_refl _, h5⟩) (fun _ => ?_)
    have F : Fr [4005] x (wb_iu x 16 0 5 (nN w)) := Fr_iu rfl
    have D1 : DS q f e (wb_iu x 16 0 5 (nN w)) := DS_keep13 F rfl D
    have m2 := D1.2.2.1
    have h5' : (wb_iu x 16 0 5 (nN w)).1 16 0 5 = nN w := iu_at
    simp (disch := omega) only [L_0, L_1, L_2, L_3, L_4, L_5, L_6, L_7, L_8, L_9, L_10, L_11, L_12, L_13, L_14, L_15, L_16, L_17, L_18, L_19, L_20, L_21, L_22, L_23, L_24, L_25, L_26, L_27, L_28, L_29, L_30, L_31, L_32, L_33, L_34, L_35, L_40, L_41, L_42, L_43, L_44, L_45, L_47, L_48, L_50, L_53, L_57, L_59, L_60, L_61, L_63, L_64, L_97, L_100, L_101, L_102, L_103, L_122, L_130, L_216, L_255, L_364, L_400, L_402, L_420, L_728, L_768, L_999, L_1000, L_1093, L_1872, L_2000, L_9999, L_12345, L_252645135, L_858993459, L_1103515245, L_1431655765, Lm_1, Lm_2, Lm_8, N_zero, N_cast, N_add, N_mul, N_sub, N_addM, N_lt_tp, N_lt_fp, N_le_tp, N_le_fp, N_eq_tp, N_eq_fp, MN_ltp, MN_lep, NM_ltp, NM_lep, NM_eqp, MN_eqp, MM_lt_tp, MM_lt_fp, MM_le_tp, MM_le_fp, MM_eq_tp, MM_eq_fp, N_cl, N_in_t, N_in_f, M_in, N_div, N_rem, N_nb0, N_nb1, cond_true, cond_false, Bool.not_true, Bool.not_false, Bool.and_true, Bool.true_and, Bool.and_false, Bool.false_and, decide_true, decide_false, Option.bind_some, Option.bind_none, m2, g1, g2, Nat.add_sub_cancel, h5']
    refine Ok_bind (dq_emit D1 _ _) ?_
    rintro ⟨y, x2⟩ ⟨H, F2, -⟩
    simp only at H F2 ⊢
    refine Ok_w (ih (by omega) x2 H.2.2 ((Fr_i F2 (by rfl)).trans h5')) ?_
    · rintro x3 ⟨H3, F3, w', hw', e3⟩
      exact ⟨DQ_trans (DQ_trans ⟨Fr_mono F rfl, FX_fr F rfl, D1⟩ H) H3, Fr_trans (Fr_trans (Fr_mono F rfl) (Fr_mono F2 rfl)) F3, w', by omega, e3⟩
theorem dq_sum {x : wb_H} (D : DS q f e x) : Ok (q_Reader_parseSum sc x) (DQ q f e x) := by
  have F : Fr [4005] x (wb_iu x 16 0 5 (nN 0)) := Fr_iu rfl
  have D1 : DS q f e (wb_iu x 16 0 5 (nN 0)) := DS_keep13 F rfl D
  have d1 := D.2.1.1
  have d2 := D.2.1.2.1
  have d3 := D1.2.1.2.2.1
  rw [q_Reader_parseSum_eq, q_Reader_parseSum_L14_eq]
  simp (disch := omega) only [L_0, L_1, L_2, L_3, L_4, L_5, L_6, L_7, L_8, L_9, L_10, L_11, L_12, L_13, L_14, L_15, L_16, L_17, L_18, L_19, L_20, L_21, L_22, L_23, L_24, L_25, L_26, L_27, L_28, L_29, L_30, L_31, L_32, L_33, L_34, L_35, L_40, L_41, L_42, L_43, L_44, L_45, L_47, L_48, L_50, L_53, L_57, L_59, L_60, L_61, L_63, L_64, L_97, L_100, L_101, L_102, L_103, L_122, L_130, L_216, L_255, L_364, L_400, L_402, L_420, L_728, L_768, L_999, L_1000, L_1093, L_1872, L_2000, L_9999, L_12345, L_252645135, L_858993459, L_1103515245, L_1431655765, Lm_1, Lm_2, Lm_8, N_zero, N_cast, N_add, N_mul, N_sub, N_addM, N_lt_tp, N_lt_fp, N_le_tp, N_le_fp, N_eq_tp, N_eq_fp, MN_ltp, MN_lep, NM_ltp, NM_lep, NM_eqp, MN_eqp, MM_lt_tp, MM_lt_fp, MM_le_tp, MM_le_fp, MM_eq_tp, MM_eq_fp, N_cl, N_in_t, N_in_f, M_in, N_div, N_rem, N_nb0, N_nb1, cond_true, cond_false, Bool.not_true, Bool.not_false, Bool.and_true, Bool.true_and, Bool.and_false, Bool.false_and, decide_true, decide_false, Option.bind_some, Option.bind_none, d3]
  rw [X_emitW_L0]
  refine Ok_bind (dq_emitW (nN 1) 0 (by decide) _ D1 iu_at) ?_
  rintro x2 ⟨H, -⟩
  exact Ok_some (DQ_trans ⟨Fr_mono F rfl, FX_fr F rfl, D1⟩ H)
theorem dq_fin {x : wb_H} (D : DS q f e x) : Ok ((q_Reader_parseSum sc x).bind fun h1 => bif (decide (0 < h1.2.2 16 0 2)) then bif (decide ((h1.2.2 16 0 2 - 1) < 2)) then bif (decide ((h1.2.2 16 0 2 - 1) < 2)) then ((q_Laws_emit sc h1 (h1.2.2 16 0 2 - 1) (nN 3) (nN 0)).bind fun r2 => some r2.2) else none else none else none) (DQ q f e x) := by
  have g1 : decide (0 < q + 1) = true := decide_eq_true (by omega)
  have g2 : decide (q < 2) = true := decide_eq_true D.1
  refine Ok_bind (dq_sum D) ?_
  intro x1 H1
  have m2 := H1.2.2.2.2.1
  simp only [m2, g1, g2, Nat.add_sub_cancel, cond_true]
  refine Ok_bind (dq_emit H1.2.2 _ _) ?_
  rintro ⟨y, x2⟩ ⟨H2, -⟩
  exact Ok_some (DQ_trans H1 H2)
theorem dq_law19 : ∀ k v, v + k = 4 → ∀ x, DS q f e x → Ok (q_Reader_parseLaw_L19 sc x (nN v)) (DQ q f e x) := by
  intro k
  induction k with
  | zero =>
    intro v hv x D
    rw [q_Reader_parseLaw_L19_eq]
    simp (disch := omega) only [L_0, L_1, L_2, L_3, L_4, L_5, L_6, L_7, L_8, L_9, L_10, L_11, L_12, L_13, L_14, L_15, L_16, L_17, L_18, L_19, L_20, L_21, L_22, L_23, L_24, L_25, L_26, L_27, L_28, L_29, L_30, L_31, L_32, L_33, L_34, L_35, L_40, L_41, L_42, L_43, L_44, L_45, L_47, L_48, L_50, L_53, L_57, L_59, L_60, L_61, L_63, L_64, L_97, L_100, L_101, L_102, L_103, L_122, L_130, L_216, L_255, L_364, L_400, L_402, L_420, L_728, L_768, L_999, L_1000, L_1093, L_1872, L_2000, L_9999, L_12345, L_252645135, L_858993459, L_1103515245, L_1431655765, Lm_1, Lm_2, Lm_8, N_zero, N_cast, N_add, N_mul, N_sub, N_addM, N_lt_tp, N_lt_fp, N_le_tp, N_le_fp, N_eq_tp, N_eq_fp, MN_ltp, MN_lep, NM_ltp, NM_lep, NM_eqp, MN_eqp, MM_lt_tp, MM_lt_fp, MM_le_tp, MM_le_fp, MM_eq_tp, MM_eq_fp, N_cl, N_in_t, N_in_f, M_in, N_div, N_rem, N_nb0, N_nb1, cond_true, cond_false, Bool.not_true, Bool.not_false, Bool.and_true, Bool.true_and, Bool.and_false, Bool.false_and, decide_true, decide_false, Option.bind_some, Option.bind_none, dX_fail D.2.1]
    exact Ok_c (fun _ => dq_fin D) (fun _ => dq_fin D)
  | succ k ih =>
    intro v hv x D
    have g1 : decide (0 < q + 1) = true := decide_eq_true (by omega)
    have g2 : decide (q < 2) = true := decide_eq_true D.1
    rw [q_Reader_parseLaw_L19_eq]
    simp (disch := omega) only [L_0, L_1, L_2, L_3, L_4, L_5, L_6, L_7, L_8, L_9, L_10, L_11, L_12, L_13, L_14, L_15, L_16, L_17, L_18, L_19, L_20, L_21, L_22, L_23, L_24, L_25, L_26, L_27, L_28, L_29, L_30, L_31, L_32, L_33, L_34, L_35, L_40, L_41, L_42, L_43, L_44, L_45, L_47, L_48, L_50, L_53, L_57, L_59, L_60, L_61, L_63, L_64, L_97, L_100, L_101, L_102, L_103, L_122, L_130, L_216, L_255, L_364, L_400, L_402, L_420, L_728, L_768, L_999, L_1000, L_1093, L_1872, L_2000, L_9999, L_12345, L_252645135, L_858993459, L_1103515245, L_1431655765, Lm_1, Lm_2, Lm_8, N_zero, N_cast, N_add, N_mul, N_sub, N_addM, N_lt_tp, N_lt_fp, N_le_tp, N_le_fp, N_eq_tp, N_eq_fp, MN_ltp, MN_lep, NM_ltp, NM_lep, NM_eqp, MN_eqp, MM_lt_tp, MM_lt_fp, MM_le_tp, MM_le_fp, MM_eq_tp, MM_eq_fp, N_cl, N_in_t, N_in_f, M_in, N_div, N_rem, N_nb0, N_nb1, cond_true, cond_false, Bool.not_true, Bool.not_false, Bool.and_true, Bool.true_and, Bool.and_false, Bool.false_and, decide_true, decide_false, Option.bind_some, Option.bind_none, dX_fail D.2.1]
    refine Ok_c (fun _ => Ok_c (fun _ => dq_fin D) (fun _ => dq_fin D)) (fun _ => ?_)
    rw [dX_take D.2.1]
    simp only [Option.bind_some]
    refine Ok_bind (dq_sum D) ?_
    intro x1 H1
    rw [dX_take H1.2.2.2.1]
    simp only [Option.bind_some]
    refine Ok_bind (dq_sum H1.2.2) ?_
    intro x2 H2
    simp only [H2.2.2.2.2.1, g1, g2, Nat.add_sub_cancel, cond_true]
    refine Ok_bind (dq_emit H2.2.2 _ _) ?_
    rintro ⟨y, x3⟩ ⟨H3, -, y', hy', ey⟩
    simp only at H3 ey ⊢
    rw [dX_take H3.2.2.2.1]
    simp only [Option.bind_some]
    refine Ok_bind (dq_sum H3.2.2) ?_
    intro x4 H4
    rw [dX_take H4.2.2.2.1]
    simp only [Option.bind_some, H4.2.2.2.2.1, g1, g2, Nat.add_sub_cancel, cond_true]
    refine Ok_bind (dq_emit H4.2.2 _ _) ?_
    rintro ⟨y2, x5⟩ ⟨H5, -⟩
    simp only at H5 ⊢
    simp only [H5.2.2.2.2.1, g1, g2, Nat.add_sub_cancel, cond_true, ey]
    refine Ok_bind (dq_aim H5.2.2 hy') ?_
    intro x6 H6
    refine Ok_w (ih (v + 1) (by omega) x6 H6.2.2) ?_
    intro x7 H7
    exact DQ_trans H1 (DQ_trans H2 (DQ_trans H3 (DQ_trans H4 (DQ_trans H5 (DQ_trans H6 H7)))))
theorem dq_iu {x : wb_H} (D : DS q f e x) {t k : Nat} {v : Int32} (a : wb_mem t [43, 49, 50, 51, 52] = true) : DQ q f e x (wb_iu x t q k v) := by
  have key : ∀ t, wb_mem t [43, 49, 50, 51, 52] = true → kc t k = t ∧ wb_mem t LDQ = true ∧ wb_mem t LXP = true := by
    intro t ht
    have o : t = 43 ∨ t = 49 ∨ t = 50 ∨ t = 51 ∨ t = 52 := by
      simp only [wb_mem] at ht
      by_cases a1 : t = 43
      · exact Or.inl a1
      · by_cases a2 : t = 49
        · exact Or.inr (Or.inl a2)
        · by_cases a3 : t = 50
          · exact Or.inr (Or.inr (Or.inl a3))
          · by_cases a4 : t = 51
            · exact Or.inr (Or.inr (Or.inr (Or.inl a4)))
            · by_cases a5 : t = 52
              · exact Or.inr (Or.inr (Or.inr (Or.inr a5)))
              · have n : ∀ c, t ≠ c → Nat.beq t c = false := fun c hc => by
                  cases e : Nat.beq t c with
                  | false => rfl
                  | true => exact absurd (Nat.eq_of_beq_eq_true e) hc
                rw [n _ a1, n _ a2, n _ a3, n _ a4, n _ a5] at ht
                exact Bool.noConfusion ht
    rcases o with e | e | e | e | e <;> subst e <;> exact ⟨rfl, rfl, rfl⟩
  obtain ⟨k1, k2, k3⟩ := key t a
  have F : Fr [43, 49, 50, 51, 52] x (wb_iu x t q k v) := Fr_iu (by rw [k1]; exact a)
  exact ⟨Fr_mono F rfl, FX_iu (Or.inr ⟨rfl, k3⟩), DS_keep13 F rfl D⟩
theorem dq_lu {x : wb_H} (D : DS q f e x) {k : Nat} {v : Int64} : DQ q f e x (wb_lu x 48 q k v) := by
  have F : Fr [48] x (wb_lu x 48 q k v) := Fr_lu rfl
  exact ⟨Fr_mono F rfl, FX_lu (Or.inr ⟨rfl, rfl⟩), DS_keep13 F rfl D⟩
theorem dq_law {x : wb_H} (D : DS q f e x) {i : Nat} (hi : i < 6) : Ok (q_Reader_parseLaw sc x (nN i)) (DQ q f e x) := by
  have g1 : decide (0 < q + 1) = true := decide_eq_true (by omega)
  have g2 : decide (q < 2) = true := decide_eq_true D.1
  rw [q_Reader_parseLaw_eq]
  simp only [D.2.2.1, g1, g2, Nat.add_sub_cancel, cond_true]
  rw [q_Laws_begin_eq]
  simp (disch := omega) only [L_0, L_1, L_2, L_3, L_4, L_5, L_6, L_7, L_8, L_9, L_10, L_11, L_12, L_13, L_14, L_15, L_16, L_17, L_18, L_19, L_20, L_21, L_22, L_23, L_24, L_25, L_26, L_27, L_28, L_29, L_30, L_31, L_32, L_33, L_34, L_35, L_40, L_41, L_42, L_43, L_44, L_45, L_47, L_48, L_50, L_53, L_57, L_59, L_60, L_61, L_63, L_64, L_97, L_100, L_101, L_102, L_103, L_122, L_130, L_216, L_255, L_364, L_400, L_402, L_420, L_728, L_768, L_999, L_1000, L_1093, L_1872, L_2000, L_9999, L_12345, L_252645135, L_858993459, L_1103515245, L_1431655765, Lm_1, Lm_2, Lm_8, N_zero, N_cast, N_add, N_mul, N_sub, N_addM, N_lt_tp, N_lt_fp, N_le_tp, N_le_fp, N_eq_tp, N_eq_fp, MN_ltp, MN_lep, NM_ltp, NM_lep, NM_eqp, MN_eqp, MM_lt_tp, MM_lt_fp, MM_le_tp, MM_le_fp, MM_eq_tp, MM_eq_fp, N_cl, N_in_t, N_in_f, M_in, N_div, N_rem, N_nb0, N_nb1, cond_true, cond_false, Bool.not_true, Bool.not_false, Bool.and_true, Bool.true_and, Bool.and_false, Bool.false_and, decide_true, decide_false, Option.bind_some, Option.bind_none, g2]
  have H1 := dq_iu (t := 43) (k := i) (v := x.1 13 q 6) D rfl
  rw [dX_take H1.2.2.2.1]
  simp only [Option.bind_some]
  refine Ok_w (dq_law19 4 0 rfl _ H1.2.2) ?_
  intro x2 H2
  exact DQ_trans H1 H2
theorem X_find_f {x : wb_H} {n : Nat} (hq : q < 2) (hn : n ≤ 6) (h0 : x.1 15 q 0 = nN n) (v : Int64) : q_Plan_find sc x q v = some (fnX (x.2.1 48 q) v n 0, x) := by
  have g2 : decide (q < 2) = true := decide_eq_true hq
  have key : ∀ r j, j + r = n → q_Plan_find_L2 sc x q v (nN j) = some (fnX (x.2.1 48 q) v r j, x) := by
    intro r
    induction r with
    | zero =>
      intro j hj
      rw [Nat.add_zero] at hj
      subst hj
      rw [q_Plan_find_L2_eq, fnX]
      simp (disch := omega) only [L_0, L_1, L_2, L_3, L_4, L_5, L_6, L_7, L_8, L_9, L_10, L_11, L_12, L_13, L_14, L_15, L_16, L_17, L_18, L_19, L_20, L_21, L_22, L_23, L_24, L_25, L_26, L_27, L_28, L_29, L_30, L_31, L_32, L_33, L_34, L_35, L_40, L_41, L_42, L_43, L_44, L_45, L_47, L_48, L_50, L_53, L_57, L_59, L_60, L_61, L_63, L_64, L_97, L_100, L_101, L_102, L_103, L_122, L_130, L_216, L_255, L_364, L_400, L_402, L_420, L_728, L_768, L_999, L_1000, L_1093, L_1872, L_2000, L_9999, L_12345, L_252645135, L_858993459, L_1103515245, L_1431655765, Lm_1, Lm_2, Lm_8, N_zero, N_cast, N_add, N_mul, N_sub, N_addM, N_lt_tp, N_lt_fp, N_le_tp, N_le_fp, N_eq_tp, N_eq_fp, MN_ltp, MN_lep, NM_ltp, NM_lep, NM_eqp, MN_eqp, MM_lt_tp, MM_lt_fp, MM_le_tp, MM_le_fp, MM_eq_tp, MM_eq_fp, N_cl, N_in_t, N_in_f, M_in, N_div, N_rem, N_nb0, N_nb1, cond_true, cond_false, Bool.not_true, Bool.not_false, Bool.and_true, Bool.true_and, Bool.and_false, Bool.false_and, decide_true, decide_false, Option.bind_some, Option.bind_none, g2, h0]
    | succ r ih =>
      intro j hj
      rw [q_Plan_find_L2_eq, fnX]
      by_cases z : x.2.1 48 q j = v
      · rw [if_pos z]
        simp (disch := omega) only [L_0, L_1, L_2, L_3, L_4, L_5, L_6, L_7, L_8, L_9, L_10, L_11, L_12, L_13, L_14, L_15, L_16, L_17, L_18, L_19, L_20, L_21, L_22, L_23, L_24, L_25, L_26, L_27, L_28, L_29, L_30, L_31, L_32, L_33, L_34, L_35, L_40, L_41, L_42, L_43, L_44, L_45, L_47, L_48, L_50, L_53, L_57, L_59, L_60, L_61, L_63, L_64, L_97, L_100, L_101, L_102, L_103, L_122, L_130, L_216, L_255, L_364, L_400, L_402, L_420, L_728, L_768, L_999, L_1000, L_1093, L_1872, L_2000, L_9999, L_12345, L_252645135, L_858993459, L_1103515245, L_1431655765, Lm_1, Lm_2, Lm_8, N_zero, N_cast, N_add, N_mul, N_sub, N_addM, N_lt_tp, N_lt_fp, N_le_tp, N_le_fp, N_eq_tp, N_eq_fp, MN_ltp, MN_lep, NM_ltp, NM_lep, NM_eqp, MN_eqp, MM_lt_tp, MM_lt_fp, MM_le_tp, MM_le_fp, MM_eq_tp, MM_eq_fp, N_cl, N_in_t, N_in_f, M_in, N_div, N_rem, N_nb0, N_nb1, cond_true, cond_false, Bool.not_true, Bool.not_false, Bool.and_true, Bool.true_and, Bool.and_false, Bool.false_and, decide_true, decide_false, Option.bind_some, Option.bind_none, g2, h0, z, lg_self]
      · rw [if_neg z]
        simp (disch := omega) only [L_0, L_1, L_2, L_3, L_4, L_5, L_6, L_7, L_8, L_9, L_10, L_11, L_12, L_13, L_14, L_15, L_16, L_17, L_18, L_19, L_20, L_21, L_22, L_23, L_24, L_25, L_26, L_27, L_28, L_29, L_30, L_31, L_32, L_33, L_34, L_35, L_40, L_41, L_42, L_43, L_44, L_45, L_47, L_48, L_50, L_53, L_57, L_59, L_60, L_61, L_63, L_64, L_97, L_100, L_101, L_102, L_103, L_122, L_130, L_216, L_255, L_364, L_400, L_402, L_420, L_728, L_768, L_999, L_1000, L_1093, L_1872, L_2000, L_9999, L_12345, L_252645135, L_858993459, L_1103515245, L_1431655765, Lm_1, Lm_2, Lm_8, N_zero, N_cast, N_add, N_mul, N_sub, N_addM, N_lt_tp, N_lt_fp, N_le_tp, N_le_fp, N_eq_tp, N_eq_fp, MN_ltp, MN_lep, NM_ltp, NM_lep, NM_eqp, MN_eqp, MM_lt_tp, MM_lt_fp, MM_le_tp, MM_le_fp, MM_eq_tp, MM_eq_fp, N_cl, N_in_t, N_in_f, M_in, N_div, N_rem, N_nb0, N_nb1, cond_true, cond_false, Bool.not_true, Bool.not_false, Bool.and_true, Bool.true_and, Bool.and_false, Bool.false_and, decide_true, decide_false, Option.bind_some, Option.bind_none, g2, h0, lg_ne z]
        exact ih (j + 1) (by omega)
  rw [q_Plan_find_eq]
  exact key n 0 (Nat.zero_add _)
theorem dq_model {x : wb_H} (D : DS q f e x) {i : Nat} (hi : i < 6) : Ok (q_Reader_parseModel sc x (nN i)) (DQ q f e x) := by
  have g1 : decide (0 < q + 1) = true := decide_eq_true (by omega)
  have g2 : decide (q < 2) = true := decide_eq_true D.1
  obtain ⟨p, hp, h3⟩ := D.2.1.2.2.2.2
  obtain ⟨n, hn, h0⟩ := D.2.2.2.2
  rw [q_Reader_parseModel_eq]
  simp (disch := omega) only [D.2.2.1, g1, g2, Nat.add_sub_cancel, h3, N_in_t, N_cl, cond_true, cond_false, Bool.not_true, Bool.not_false, Bool.and_true, Bool.true_and, Bool.and_false, Bool.false_and, decide_true, decide_false, Option.bind_some, Option.bind_none]
  rw [X_find_f D.1 hn h0]
  simp only [Option.bind_some]
  have H1 := dq_iu (t := 52) (k := i) (v := fnX (x.2.1 48 q) (x.2.1 59 0 p) n 0) D rfl
  have m2 : (wb_iu x 52 q i (fnX (x.2.1 48 q) (x.2.1 59 0 p) n 0)).2.2 16 0 2 = q + 1 := D.2.2.1
  simp only [m2, g1, g2, Nat.add_sub_cancel, cond_true]
  refine Ok_c (fun _ => ?_) (fun _ => Ok_c (fun _ => ?_) (fun _ => ?_))
  · rw [dX_take H1.2.2.2.1]
    exact Ok_some H1
  · rw [dX_take H1.2.2.2.1]
    exact Ok_some H1
  · refine Ok_bind (dq_later H1.2.2 _) ?_
    intro x2 H2
    rw [dX_take H2.2.2.2.1]
    exact Ok_some (DQ_trans H1 H2)
theorem dq_habit {x : wb_H} (D : DS q f e x) {i : Nat} (hi : i < 6) : Ok (q_Reader_parseHabit sc x (nN i)) (DQ q f e x) := by
  have g1 : decide (0 < q + 1) = true := decide_eq_true (by omega)
  have g2 : decide (q < 2) = true := decide_eq_true D.1
  rw [q_Reader_parseHabit_eq]
  simp (disch := omega) only [D.2.2.1, g1, g2, Nat.add_sub_cancel, N_in_t, N_cl, cond_true, cond_false, Bool.not_true, Bool.not_false, Bool.and_true, Bool.true_and, Bool.and_false, Bool.false_and, decide_true, decide_false, Option.bind_some, Option.bind_none, dX_fail D.2.1]
  refine Ok_c (fun _ => ?_) (fun _ => ?_)
  · refine Ok_c (fun _ => Ok_some (DQ_refl D)) (fun _ => Ok_c (fun _ => Ok_some (DQ_refl D)) (fun _ => ?_))
    have H1 := dq_iu (t := 51) (k := i) (v := x.1 16 0 4 - Int32.ofInt 6) D rfl
    rw [dX_take H1.2.2.2.1]
    simp only [Option.bind_some]
    refine Ok_c (fun _ => Ok_some H1) (fun _ => ?_)
    refine Ok_bind (dq_model H1.2.2 hi) ?_
    intro x2 H2
    exact Ok_some (DQ_trans H1 H2)
  · have H1 := dq_iu (t := 51) (k := i) (v := Int32.ofInt 6) D rfl
    refine Ok_bind (dq_law H1.2.2 hi) ?_
    intro x2 H2
    exact Ok_some (DQ_trans H1 H2)
end
