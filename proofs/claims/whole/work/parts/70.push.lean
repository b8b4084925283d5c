/-! Things done: how it stood is kept, on both sides. -/
theorem cp_at {f : Nat → Nat → Nat → Int32} {t o t2 o2 n k : Nat} (hk : k < n) : wb_cp f t o 0 t2 o2 0 n t2 o2 k = f t o k := by
  rw [wb_cp, if_pos ⟨⟨rfl, rfl⟩, Nat.zero_le _, by omega⟩]
  congr 1
  omega
theorem cp_ne {f : Nat → Nat → Nat → Int32} {t o t2 o2 n t' o' k : Nat} (h : t' ≠ t2 ∨ o' ≠ o2) : wb_cp f t o 0 t2 o2 0 n t' o' k = f t' o' k := by
  rw [wb_cp, if_neg]
  rintro ⟨⟨a, b⟩, -⟩
  omega
theorem cp17 (h : wb_H) (d o o' k : Nat) : (wb_cp h.1 54 o 0 54 d 0 30, h.2).1 17 o' k = h.1 17 o' k := cp_ne (f := h.1) (t := 54) (o := o) (t2 := 54) (o2 := d) (n := 30) (t' := 17) (o' := o') (k := k) (Or.inl (by decide))
theorem cp54 (h : wb_H) (d o o' k : Nat) (ho : o' ≠ d) : (wb_cp h.1 54 o 0 54 d 0 30, h.2).1 54 o' k = h.1 54 o' k := cp_ne (f := h.1) (t := 54) (o := o) (t2 := 54) (o2 := d) (n := 30) (t' := 54) (o' := o') (k := k) (Or.inr ho)
theorem cp54a (h : wb_H) (d o k : Nat) (hk : k < 30) : (wb_cp h.1 54 o 0 54 d 0 30, h.2).1 54 d k = h.1 54 o k := cp_at (f := h.1) (t := 54) (o := o) (t2 := 54) (o2 := d) (n := 30) (k := k) hk
def cpP (h h' : wb_H) (d o : Nat) : Prop := Fr [17, 54] h h' ∧ (∀ k, k < 8 → 1 ≤ k → h'.1 17 d k = h.1 17 o k) ∧ (∀ k, k < 30 → h'.1 54 d k = h.1 54 o k) ∧ (∀ o', o' ≠ d → ∀ k, h'.1 17 o' k = h.1 17 o' k ∧ h'.1 54 o' k = h.1 54 o' k)
theorem iu_o {h : wb_H} {t o k t' o' k' : Nat} {v : Int32} (h1 : o' ≠ o) : (wb_iu h t o k v).1 t' o' k' = h.1 t' o' k' := by rw [wb_iu_1, if_neg (fun q => h1 q.2.1)]
section
variable {sc : wb_X}
theorem X_copy {h : wb_H} {d o : Nat} (hd : d < 44) (ho : o < 44) (hdo : d ≠ o) (hb : wb_nb (h.1 17 o 5) = true) : Ok (q_Standing_copy sc h d o) (fun h' => cpP h h' d o) := by
  have g1 : decide (d < 44) = true := decide_eq_true hd
  have g2 : decide (o < 44) = true := decide_eq_true ho
  have hod : o ≠ d := fun e => hdo e.symm
  rw [q_Standing_copy_eq]
  simp (disch := omega) only [g1, g2, L_0, L_1, L_2, L_3, L_4, L_5, L_6, L_7, L_8, L_9, L_10, L_11, L_12, L_13, L_14, L_15, L_16, L_17, L_18, L_19, L_20, L_21, L_22, L_23, L_24, L_25, L_26, L_27, L_28, L_29, L_30, L_31, L_32, L_33, L_34, L_35, L_40, L_41, L_42, L_43, L_44, L_45, L_47, L_48, L_50, L_53, L_57, L_59, L_60, L_61, L_63, L_64, L_97, L_100, L_101, L_102, L_103, L_122, L_130, L_216, L_255, L_364, L_400, L_402, L_420, L_728, L_768, L_999, L_1000, L_1093, L_1872, L_2000, L_9999, L_12345, L_252645135, L_858993459, L_1103515245, L_1431655765, Lm_1, Lm_2, Lm_8, N_zero, N_cast, N_add, N_mul, N_sub, N_addM, N_lt_tp, N_lt_fp, N_le_tp, N_le_fp, N_eq_tp, N_eq_fp, MN_ltp, MN_lep, NM_ltp, NM_lep, NM_eqp, MN_eqp, MM_lt_tp, MM_lt_fp, MM_le_tp, MM_le_fp, MM_eq_tp, MM_eq_fp, N_cl, N_in_t, N_in_f, M_in, N_div, N_rem, N_nb0, N_nb1, cond_true, cond_false, Bool.not_true, Bool.not_false, Bool.and_true, Bool.true_and, Bool.and_false, Bool.false_and, decide_true, decide_false, Option.bind_some, Option.bind_none]
  rw [show decide (0 + 30 ≤ 30) = true from rfl]
  simp only [cond_true, cond_false, Bool.not_true, Bool.not_false, Bool.and_true, Bool.true_and, Bool.and_false, Bool.false_and, decide_true, decide_false, Option.bind_some, Option.bind_none]
  rw [q_Standing_copy_L34_eq]
  have z : (wb_cp h.1 54 o 0 54 d 0 30, h.2).1 17 o 5 = h.1 17 o 5 := cp17 h d o o 5
  have z' : wb_cp h.1 54 o 0 54 d 0 30 17 o 5 = h.1 17 o 5 := cp17 h d o o 5
  have z5 : ∀ (g : wb_H) (k1 k2 : Nat) (v1 v2 : Int32), (wb_iu (wb_iu g 17 d k1 v1) 17 d k2 v2).1 17 o 5 = g.1 17 o 5 := fun g k1 k2 v1 v2 => by rw [iu_o hod, iu_o hod]
  simp only [g1, g2, cond_true, Bool.true_and, z5, z, z', hb]
  rw [q_Standing_copy_L66_eq]
  simp only [g1, g2, cond_true]
  have q : ∀ k, (wb_cp h.1 54 o 0 54 d 0 30, h.2).1 17 o k = h.1 17 o k := cp17 h d o o
  refine Ok_some ⟨?_, ?_, ?_, ?_⟩
  · exact Fr_trans (Fr_cp (fun _ => rfl)) (Fr_trans (Fr_trans (Fr_trans (Fr_trans (Fr_trans (Fr_trans (Fr_iu rfl) (Fr_iu rfl)) (Fr_iu rfl)) (Fr_iu rfl)) (Fr_iu rfl)) (Fr_iu rfl)) (Fr_iu rfl))
  · intro k hk h1
    rcases (show k = 1 ∨ k = 2 ∨ k = 3 ∨ k = 4 ∨ k = 5 ∨ k = 6 ∨ k = 7 by omega) with e | e | e | e | e | e | e <;> subst e
    · rw [iu_ne (by decide), iu_ne (by decide), iu_ne (by decide), iu_ne (by decide), iu_ne (by decide), iu_ne (by decide), iu_at]
      exact q 1
    · rw [iu_ne (by decide), iu_ne (by decide), iu_ne (by decide), iu_ne (by decide), iu_ne (by decide), iu_at, iu_o hod, q]
    · rw [iu_ne (by decide), iu_ne (by decide), iu_ne (by decide), iu_ne (by decide), iu_at, iu_o hod, iu_o hod, q]
    · rw [iu_ne (by decide), iu_ne (by decide), iu_ne (by decide), iu_at, iu_o hod, iu_o hod, iu_o hod, q]
    · rw [iu_ne (by decide), iu_ne (by decide), iu_at]
    · rw [iu_ne (by decide), iu_at, iu_o hod, iu_o hod, iu_o hod, iu_o hod, iu_o hod, q]
    · rw [iu_at, iu_o hod, iu_o hod, iu_o hod, iu_o hod, iu_o hod, iu_o hod, q]
  · intro k hk
    rw [iu_nt (by decide), iu_nt (by decide), iu_nt (by decide), iu_nt (by decide), iu_nt (by decide), iu_nt (by decide), iu_nt (by decide)]
    exact cp54a h d o k hk
  · intro o' h1 k
    refine ⟨?_, ?_⟩
    · rw [iu_o h1, iu_o h1, iu_o h1, iu_o h1, iu_o h1, iu_o h1, iu_o h1]
      exact cp17 h d o o' k
    · rw [iu_o h1, iu_o h1, iu_o h1, iu_o h1, iu_o h1, iu_o h1, iu_o h1]
      exact cp54 h d o o' k h1
/-- the class keeps how it stands -/
def XP (h h2 : wb_H) (nx c : Nat) : Prop := h2.1 14 0 1 = nN ((nx + 1) % 40) ∧ h2.1 14 0 2 = nN (min (c + 1) 40) ∧ (∀ k, k < 8 → 1 ≤ k → h2.1 17 (1 + nx) k = h.1 17 0 k) ∧ (∀ k, k < 30 → h2.1 54 (1 + nx) k = h.1 54 0 k) ∧ (∀ o, o ≠ 1 + nx → o ≠ 0 → ∀ k, h2.1 17 o k = h.1 17 o k ∧ h2.1 54 o k = h.1 54 o k)
theorem X_remember {h : wb_H} {nx c : Nat} (h1 : nx < 40) (h2 : c ≤ 40) (h3 : h.1 14 0 1 = nN nx) (h4 : h.1 14 0 2 = nN c) (hb : wb_nb (h.1 17 0 5) = true) : Ok (q_Past_remember sc h 0) (fun h' => Fr [17, 54, 9001, 9002] h h' ∧ XP h h' nx c ∧ (∀ k, h'.1 17 0 k = h.1 17 0 k) ∧ (∀ k, h'.1 54 0 k = h.1 54 0 k)) := by
  have g : decide (1 + nx < 44) = true := decide_eq_true (by omega)
  rw [q_Past_remember_eq]
  simp (disch := omega) only [L_0, L_1, L_2, L_3, L_4, L_5, L_6, L_7, L_8, L_9, L_10, L_11, L_12, L_13, L_14, L_15, L_16, L_17, L_18, L_19, L_20, L_21, L_22, L_23, L_24, L_25, L_26, L_27, L_28, L_29, L_30, L_31, L_32, L_33, L_34, L_35, L_40, L_41, L_42, L_43, L_44, L_45, L_47, L_48, L_50, L_53, L_57, L_59, L_60, L_61, L_63, L_64, L_97, L_100, L_101, L_102, L_103, L_122, L_130, L_216, L_255, L_364, L_400, L_402, L_420, L_728, L_768, L_999, L_1000, L_1093, L_1872, L_2000, L_9999, L_12345, L_252645135, L_858993459, L_1103515245, L_1431655765, Lm_1, Lm_2, Lm_8, N_zero, N_cast, N_add, N_mul, N_sub, N_addM, N_lt_tp, N_lt_fp, N_le_tp, N_le_fp, N_eq_tp, N_eq_fp, MN_ltp, MN_lep, NM_ltp, NM_lep, NM_eqp, MN_eqp, MM_lt_tp, MM_lt_fp, MM_le_tp, MM_le_fp, MM_eq_tp, MM_eq_fp, N_cl, N_in_t, N_in_f, M_in, N_div, N_rem, N_nb0, N_nb1, cond_true, cond_false, Bool.not_true, Bool.not_false, Bool.and_true, Bool.true_and, Bool.and_false, Bool.false_and, decide_true, decide_false, Option.bind_some, Option.bind_none, h3, g]
  refine Ok_bind (X_copy (d := 1 + nx) (o := 0) (by omega) (by decide) (by omega) hb) ?_
  rintro h' ⟨F1, c1, c2, c3⟩
  have e1 : h'.1 14 0 1 = nN nx := (Fr_i F1 (by rfl)).trans h3
  have e2 : h'.1 14 0 2 = nN c := (Fr_i F1 (by rfl)).trans h4
  simp (disch := omega) only [L_0, L_1, L_2, L_3, L_4, L_5, L_6, L_7, L_8, L_9, L_10, L_11, L_12, L_13, L_14, L_15, L_16, L_17, L_18, L_19, L_20, L_21, L_22, L_23, L_24, L_25, L_26, L_27, L_28, L_29, L_30, L_31, L_32, L_33, L_34, L_35, L_40, L_41, L_42, L_43, L_44, L_45, L_47, L_48, L_50, L_53, L_57, L_59, L_60, L_61, L_63, L_64, L_97, L_100, L_101, L_102, L_103, L_122, L_130, L_216, L_255, L_364, L_400, L_402, L_420, L_728, L_768, L_999, L_1000, L_1093, L_1872, L_2000, L_9999, L_12345, L_252645135, L_858993459, L_1103515245, L_1431655765, Lm_1, Lm_2, Lm_8, N_zero, N_cast, N_add, N_mul, N_sub, N_addM, N_lt_tp, N_lt_fp, N_le_tp, N_le_fp, N_eq_tp, N_eq_fp, MN_ltp, MN_lep, NM_ltp, NM_lep, NM_eqp, MN_eqp, MM_lt_tp, MM_lt_fp, MM_le_tp, MM_le_fp, MM_eq_tp, MM_eq_fp, N_cl, N_in_t, N_in_f, M_in, N_div, N_rem, N_nb0, N_nb1, cond_true, cond_false, Bool.not_true, Bool.not_false, Bool.and_true, Bool.true_and, Bool.and_false, Bool.false_and, decide_true, decide_false, Option.bind_some, Option.bind_none, e1, iu_ne (show 2 ≠ 1 by decide), e2, X_min]
  have F2 : Fr [17, 54, 9001, 9002] h (wb_iu (wb_iu h' 14 0 1 (nN ((nx + 1) % 40))) 14 0 2 (nN (min (c + 1) 40))) := Fr_trans (Fr_mono F1 rfl) (Fr_trans (Fr_iu rfl) (Fr_iu rfl))
  refine Ok_some ⟨F2, ⟨?_, iu_at, fun k hk hk1 => ?_, fun k hk => ?_, fun o ho1 ho2 k => ?_⟩, fun k => ?_, fun k => ?_⟩
  · rw [iu_ne (by decide), iu_at]
  · rw [iu_nt (by decide), iu_nt (by decide)]; exact c1 k hk hk1
  · rw [iu_nt (by decide), iu_nt (by decide)]; exact c2 k hk
  · rw [iu_nt (by decide), iu_nt (by decide), iu_nt (by decide), iu_nt (by decide)]; exact c3 o ho1 k
  · rw [iu_nt (by decide), iu_nt (by decide)]; exact (c3 0 (by omega) k).1
  · rw [iu_nt (by decide), iu_nt (by decide)]; exact (c3 0 (by omega) k).2
theorem X_forgetA {h : wb_H} : Ok (q_X_forgetAnswers sc h) (fun h' => Fr [62, 2014, 2015] h h' ∧ h'.1 20 0 15 = nN 0 ∧ h'.1 20 0 14 = nM 1 ∧ ∀ l, l < 64 → h'.1 62 0 l = nM 1) := by
  rw [q_X_forgetAnswers_eq]
  simp only [L_0, L_1, L_2, L_3, L_4, L_5, L_6, L_7, L_8, L_9, L_10, L_11, L_12, L_13, L_14, L_15, L_16, L_17, L_18, L_19, L_20, L_21, L_22, L_23, L_24, L_25, L_26, L_27, L_28, L_29, L_30, L_31, L_32, L_33, L_34, L_35, L_40, L_41, L_42, L_43, L_44, L_45, L_47, L_48, L_50, L_53, L_57, L_59, L_60, L_61, L_63, L_64, L_97, L_100, L_101, L_102, L_103, L_122, L_130, L_216, L_255, L_364, L_400, L_402, L_420, L_728, L_768, L_999, L_1000, L_1093, L_1872, L_2000, L_9999, L_12345, L_252645135, L_858993459, L_1103515245, L_1431655765, Lm_1, Lm_2, Lm_8]
  rw [fill2_62]
  refine Ok_some ⟨Fr_trans (Fr_trans (Fr_iu rfl) (Fr_iu rfl)) (Fr_fi (fun _ => rfl)), ?_, ?_, fun l hl => ?_⟩
  · rw [fi_nt (by decide), iu_ne (by decide), iu_at]
  · rw [fi_nt (by decide), iu_at]
  · rw [fi_in (Nat.zero_le _) hl]
theorem Cache_new {h : wb_H} {T : wT} {R : wR} {q : Nat} (n6 : tn T ≤ 6) (a : h.1 20 0 15 = nN 0) (b : h.1 20 0 14 = nM 1) (c : ∀ l, l < 64 → h.1 62 0 l = nM 1) : Cache h T R q := by
  have := pow2_64 n6
  exact ⟨Or.inl a, fun l hl => Or.inl (c l (by omega)), Or.inl b⟩
/-- the reference keeps how it stands -/
def MP (h h' : wb_H) (c : Nat) : Prop := Fr [95, 100, 1054] h h' ∧ h'.1 21 0 54 = nN (min (c + 1) 40) ∧ (c < 40 → (∀ x, x < 48 * c → h'.1 100 0 x = h.1 100 0 x) ∧ ∀ k, k < 48 → h'.1 100 0 (48 * c + k) = h.1 95 0 k) ∧ (c = 40 → (∀ x, x < 1872 → h'.1 100 0 x = h.1 100 0 (x + 48)) ∧ ∀ k, k < 48 → h'.1 100 0 (1872 + k) = h.1 95 0 k) ∧ (∀ k, k < 48 → h'.1 95 0 k = h.1 96 0 k)
theorem M_keepsRow {h : wb_H} : Ok (q_M_keepsRow sc h) (fun h' => Fr [95] h h' ∧ ∀ k, k < 48 → h'.1 95 0 k = h.1 96 0 k) := by
  have key : ∀ m j, j + m = 48 → ∀ h', Fr [95] h h' → (∀ k, k < j → h'.1 95 0 k = h.1 96 0 k) → Ok (q_M_keepsRow_L2 sc h' (nN j)) (fun h' => Fr [95] h h' ∧ ∀ k, k < 48 → h'.1 95 0 k = h.1 96 0 k) := by
    intro m
    induction m with
    | zero =>
      intro j hj h' F g
      rw [q_M_keepsRow_L2_eq]
      simp (disch := omega) only [L_0, L_1, L_2, L_3, L_4, L_5, L_6, L_7, L_8, L_9, L_10, L_11, L_12, L_13, L_14, L_15, L_16, L_17, L_18, L_19, L_20, L_21, L_22, L_23, L_24, L_25, L_26, L_27, L_28, L_29, L_30, L_31, L_32, L_33, L_34, L_35, L_40, L_41, L_42, L_43, L_44, L_45, L_47, L_48, L_50, L_53, L_57, L_59, L_60, L_61, L_63, L_64, L_97, L_100, L_101, L_102, L_103, L_122, L_130, L_216, L_255, L_364, L_400, L_402, L_420, L_728, L_768, L_999, L_1000, L_1093, L_1872, L_2000, L_9999, L_12345, L_252645135, L_858993459, L_1103515245, L_1431655765, Lm_1, Lm_2, Lm_8, N_zero, N_cast, N_add, N_mul, N_sub, N_addM, N_lt_tp, N_lt_fp, N_le_tp, N_le_fp, N_eq_tp, N_eq_fp, MN_ltp, MN_lep, NM_ltp, NM_lep, NM_eqp, MN_eqp, MM_lt_tp, MM_lt_fp, MM_le_tp, MM_le_fp, MM_eq_tp, MM_eq_fp, N_cl, N_in_t, N_in_f, M_in, N_div, N_rem, N_nb0, N_nb1, cond_true, cond_false, Bool.not_true, Bool.not_false, Bool.and_true, Bool.true_and, Bool.and_false, Bool.false_and, decide_true, decide_false, Option.bind_some, Option.bind_none]
      exact Ok_some ⟨F, fun k hk => g k (by omega)⟩
    | succ m ih =>
      intro j hj h' F g
      have e : h'.1 96 0 j = h.1 96 0 j := Fr_i F (by rfl)
      rw [q_M_keepsRow_L2_eq]
      simp (disch := omega) only [L_0, L_1, L_2, L_3, L_4, L_5, L_6, L_7, L_8, L_9, L_10, L_11, L_12, L_13, L_14, L_15, L_16, L_17, L_18, L_19, L_20, L_21, L_22, L_23, L_24, L_25, L_26, L_27, L_28, L_29, L_30, L_31, L_32, L_33, L_34, L_35, L_40, L_41, L_42, L_43, L_44, L_45, L_47, L_48, L_50, L_53, L_57, L_59, L_60, L_61, L_63, L_64, L_97, L_100, L_101, L_102, L_103, L_122, L_130, L_216, L_255, L_364, L_400, L_402, L_420, L_728, L_768, L_999, L_1000, L_1093, L_1872, L_2000, L_9999, L_12345, L_252645135, L_858993459, L_1103515245, L_1431655765, Lm_1, Lm_2, Lm_8, N_zero, N_cast, N_add, N_mul, N_sub, N_addM, N_lt_tp, N_lt_fp, N_le_tp, N_le_fp, N_eq_tp, N_eq_fp, MN_ltp, MN_lep, NM_ltp, NM_lep, NM_eqp, MN_eqp, MM_lt_tp, MM_lt_fp, MM_le_tp, MM_le_fp, MM_eq_tp, MM_eq_fp, N_cl, N_in_t, N_in_f, M_in, N_div, N_rem, N_nb0, N_nb1, cond_true, cond_false, Bool.not_true, Bool.not_false, Bool.and_true, Bool.true_and, Bool.and_false, Bool.false_and, decide_true, decide_false, Option.bind_some, Option.bind_none, e]
      refine ih (j + 1) (by omega) _ (Fr_trans F (Fr_iu rfl)) fun k hk => ?_
      by_cases z : k = j
      · rw [z, iu_at]
      · rw [iu_ne z]; exact g k (by omega)
  rw [q_M_keepsRow_eq]
  exact key 48 0 rfl h (Fr_refl _ _) (fun k hk => by omega)
theorem M_keeps51 {h : wb_H} {c : Nat} (hc : c < 40) (h54 : h.1 21 0 54 = nN c) : Ok (q_M_keeps_L51 sc h (nN 0)) (fun h' => Fr [95, 100, 1054] h h' ∧ h'.1 21 0 54 = nN (c + 1) ∧ (∀ x, x < 48 * c → h'.1 100 0 x = h.1 100 0 x) ∧ (∀ k, k < 48 → h'.1 100 0 (48 * c + k) = h.1 95 0 k) ∧ (∀ k, k < 48 → h'.1 95 0 k = h.1 96 0 k)) := by
  have key : ∀ m j, j + m = 48 → ∀ h', Fr [100] h h' → (∀ x, x < 48 * c → h'.1 100 0 x = h.1 100 0 x) → (∀ k, k < j → h'.1 100 0 (48 * c + k) = h.1 95 0 k) → Ok (q_M_keeps_L51 sc h' (nN j)) (fun h' => Fr [95, 100, 1054] h h' ∧ h'.1 21 0 54 = nN (c + 1) ∧ (∀ x, x < 48 * c → h'.1 100 0 x = h.1 100 0 x) ∧ (∀ k, k < 48 → h'.1 100 0 (48 * c + k) = h.1 95 0 k) ∧ (∀ k, k < 48 → h'.1 95 0 k = h.1 96 0 k)) := by
    intro m
    induction m with
    | zero =>
      intro j hj h' F g1 g2
      have e : h'.1 21 0 54 = nN c := (Fr_i F (by rfl)).trans h54
      rw [q_M_keeps_L51_eq]
      simp (disch := omega) only [L_0, L_1, L_2, L_3, L_4, L_5, L_6, L_7, L_8, L_9, L_10, L_11, L_12, L_13, L_14, L_15, L_16, L_17, L_18, L_19, L_20, L_21, L_22, L_23, L_24, L_25, L_26, L_27, L_28, L_29, L_30, L_31, L_32, L_33, L_34, L_35, L_40, L_41, L_42, L_43, L_44, L_45, L_47, L_48, L_50, L_53, L_57, L_59, L_60, L_61, L_63, L_64, L_97, L_100, L_101, L_102, L_103, L_122, L_130, L_216, L_255, L_364, L_400, L_402, L_420, L_728, L_768, L_999, L_1000, L_1093, L_1872, L_2000, L_9999, L_12345, L_252645135, L_858993459, L_1103515245, L_1431655765, Lm_1, Lm_2, Lm_8, N_zero, N_cast, N_add, N_mul, N_sub, N_addM, N_lt_tp, N_lt_fp, N_le_tp, N_le_fp, N_eq_tp, N_eq_fp, MN_ltp, MN_lep, NM_ltp, NM_lep, NM_eqp, MN_eqp, MM_lt_tp, MM_lt_fp, MM_le_tp, MM_le_fp, MM_eq_tp, MM_eq_fp, N_cl, N_in_t, N_in_f, M_in, N_div, N_rem, N_nb0, N_nb1, cond_true, cond_false, Bool.not_true, Bool.not_false, Bool.and_true, Bool.true_and, Bool.and_false, Bool.false_and, decide_true, decide_false, Option.bind_some, Option.bind_none, e]
      refine Ok_bind M_keepsRow ?_
      rintro h2 ⟨F2, k2⟩
      have F3 : Fr [1054] h' (wb_iu h' 21 0 54 (nN (c + 1))) := Fr_iu rfl
      refine Ok_some ⟨Fr_trans (Fr_mono F rfl) (Fr_trans (Fr_mono F3 rfl) (Fr_mono F2 rfl)), ?_, fun x hx => ?_, fun k hk => ?_, fun k hk => ?_⟩
      · rw [Fr_i F2 (t := 21) (by rfl), iu_at]
      · rw [Fr_i F2 (t := 100) (by rfl), iu_nt (by decide)]; exact g1 x hx
      · rw [Fr_i F2 (t := 100) (by rfl), iu_nt (by decide)]; exact g2 k (by omega)
      · rw [k2 k hk, iu_nt (by decide)]; exact Fr_i F (by rfl)
    | succ m ih =>
      intro j hj h' F g1 g2
      have e : h'.1 21 0 54 = nN c := (Fr_i F (by rfl)).trans h54
      have e2 : h'.1 95 0 j = h.1 95 0 j := Fr_i F (by rfl)
      rw [q_M_keeps_L51_eq]
      simp (disch := omega) only [L_0, L_1, L_2, L_3, L_4, L_5, L_6, L_7, L_8, L_9, L_10, L_11, L_12, L_13, L_14, L_15, L_16, L_17, L_18, L_19, L_20, L_21, L_22, L_23, L_24, L_25, L_26, L_27, L_28, L_29, L_30, L_31, L_32, L_33, L_34, L_35, L_40, L_41, L_42, L_43, L_44, L_45, L_47, L_48, L_50, L_53, L_57, L_59, L_60, L_61, L_63, L_64, L_97, L_100, L_101, L_102, L_103, L_122, L_130, L_216, L_255, L_364, L_400, L_402, L_420, L_728, L_768, L_999, L_1000, L_1093, L_1872, L_2000, L_9999, L_12345, L_252645135, L_858993459, L_1103515245, L_1431655765, Lm_1, Lm_2, Lm_8, N_zero, N_cast, N_add, N_mul, N_sub, N_addM, N_lt_tp, N_lt_fp, N_le_tp, N_le_fp, N_eq_tp, N_eq_fp, MN_ltp, MN_lep, NM_ltp, NM_lep, NM_eqp, MN_eqp, MM_lt_tp, MM_lt_fp, MM_le_tp, MM_le_fp, MM_eq_tp, MM_eq_fp, N_cl, N_in_t, N_in_f, M_in, N_div, N_rem, N_nb0, N_nb1, cond_true, cond_false, Bool.not_true, Bool.not_false, Bool.and_true, Bool.true_and, Bool.and_false, Bool.false_and, decide_true, decide_false, Option.bind_some, Option.bind_none, e, e2]
      refine ih (j + 1) (by omega) _ (Fr_trans F (Fr_iu rfl)) (fun x hx => ?_) fun k hk => ?_
      · rw [iu_ne (by omega)]; exact g1 x hx
      · by_cases z : k = j
        · rw [z, iu_at]
        · rw [iu_ne (by omega)]; exact g2 k (by omega)
  exact key 48 0 rfl h (Fr_refl _ _) (fun _ _ => rfl) (fun k hk => by omega)
theorem M_keeps {h : wb_H} {c : Nat} (hc : c ≤ 40) (h54 : h.1 21 0 54 = nN c) : Ok (q_M_keeps sc h) (fun h' => MP h h' c) := by
  rw [q_M_keeps_eq]
  by_cases z : c = 40
  · simp (disch := omega) only [L_0, L_1, L_2, L_3, L_4, L_5, L_6, L_7, L_8, L_9, L_10, L_11, L_12, L_13, L_14, L_15, L_16, L_17, L_18, L_19, L_20, L_21, L_22, L_23, L_24, L_25, L_26, L_27, L_28, L_29, L_30, L_31, L_32, L_33, L_34, L_35, L_40, L_41, L_42, L_43, L_44, L_45, L_47, L_48, L_50, L_53, L_57, L_59, L_60, L_61, L_63, L_64, L_97, L_100, L_101, L_102, L_103, L_122, L_130, L_216, L_255, L_364, L_400, L_402, L_420, L_728, L_768, L_999, L_1000, L_1093, L_1872, L_2000, L_9999, L_12345, L_252645135, L_858993459, L_1103515245, L_1431655765, Lm_1, Lm_2, Lm_8, N_zero, N_cast, N_add, N_mul, N_sub, N_addM, N_lt_tp, N_lt_fp, N_le_tp, N_le_fp, N_eq_tp, N_eq_fp, MN_ltp, MN_lep, NM_ltp, NM_lep, NM_eqp, MN_eqp, MM_lt_tp, MM_lt_fp, MM_le_tp, MM_le_fp, MM_eq_tp, MM_eq_fp, N_cl, N_in_t, N_in_f, M_in, N_div, N_rem, N_nb0, N_nb1, cond_true, cond_false, Bool.not_true, Bool.not_false, Bool.and_true, Bool.true_and, Bool.and_false, Bool.false_and, decide_true, decide_false, Option.bind_some, Option.bind_none, h54]
    have key : ∀ m j, j + m = 1872 → ∀ h', Fr [100] h h' → (∀ x, x < j → h'.1 100 0 x = h.1 100 0 (x + 48)) → (∀ x, j ≤ x → h'.1 100 0 x = h.1 100 0 x) → Ok (q_M_keeps_L11 sc h' (nN j)) (fun h' => MP h h' c) := by
      intro m
      induction m with
      | zero =>
        intro j hj h' F g1 g2
        have e : h'.1 21 0 54 = nN c := (Fr_i F (by rfl)).trans h54
        rw [q_M_keeps_L11_eq]
        simp (disch := omega) only [L_0, L_1, L_2, L_3, L_4, L_5, L_6, L_7, L_8, L_9, L_10, L_11, L_12, L_13, L_14, L_15, L_16, L_17, L_18, L_19, L_20, L_21, L_22, L_23, L_24, L_25, L_26, L_27, L_28, L_29, L_30, L_31, L_32, L_33, L_34, L_35, L_40, L_41, L_42, L_43, L_44, L_45, L_47, L_48, L_50, L_53, L_57, L_59, L_60, L_61, L_63, L_64, L_97, L_100, L_101, L_102, L_103, L_122, L_130, L_216, L_255, L_364, L_400, L_402, L_420, L_728, L_768, L_999, L_1000, L_1093, L_1872, L_2000, L_9999, L_12345, L_252645135, L_858993459, L_1103515245, L_1431655765, Lm_1, Lm_2, Lm_8, N_zero, N_cast, N_add, N_mul, N_sub, N_addM, N_lt_tp, N_lt_fp, N_le_tp, N_le_fp, N_eq_tp, N_eq_fp, MN_ltp, MN_lep, NM_ltp, NM_lep, NM_eqp, MN_eqp, MM_lt_tp, MM_lt_fp, MM_le_tp, MM_le_fp, MM_eq_tp, MM_eq_fp, N_cl, N_in_t, N_in_f, M_in, N_div, N_rem, N_nb0, N_nb1, cond_true, cond_false, Bool.not_true, Bool.not_false, Bool.and_true, Bool.true_and, Bool.and_false, Bool.false_and, decide_true, decide_false, Option.bind_some, Option.bind_none, e]
        have F3 : Fr [1054] h' (wb_iu h' 21 0 54 (nN (c - 1))) := Fr_iu rfl
        refine Ok_w (M_keeps51 (c := c - 1) (by omega) iu_at) ?_
        rintro h2 ⟨F2, k1, k2, k3, k4⟩
        refine ⟨Fr_trans (Fr_mono F rfl) (Fr_trans (Fr_mono F3 rfl) F2), ?_, fun t => absurd t (by omega), fun _ => ⟨fun x hx => ?_, fun k hk => ?_⟩, fun k hk => ?_⟩
        · rw [k1, z]; rfl
        · rw [k2 x (by omega), iu_nt (by decide)]; exact g1 x (by omega)
        · have := k3 k hk
          rw [show 48 * (c - 1) + k = 1872 + k by omega] at this
          rw [this, iu_nt (by decide)]; exact Fr_i F (by rfl)
        · rw [k4 k hk, iu_nt (by decide)]; exact Fr_i F (by rfl)
      | succ m ih =>
        intro j hj h' F g1 g2
        have e2 : h'.1 100 0 (j + 48) = h.1 100 0 (j + 48) := g2 _ (by omega)
        rw [q_M_keeps_L11_eq]
        simp (disch := omega) only [L_0, L_1, L_2, L_3, L_4, L_5, L_6, L_7, L_8, L_9, L_10, L_11, L_12, L_13, L_14, L_15, L_16, L_17, L_18, L_19, L_20, L_21, L_22, L_23, L_24, L_25, L_26, L_27, L_28, L_29, L_30, L_31, L_32, L_33, L_34, L_35, L_40, L_41, L_42, L_43, L_44, L_45, L_47, L_48, L_50, L_53, L_57, L_59, L_60, L_61, L_63, L_64, L_97, L_100, L_101, L_102, L_103, L_122, L_130, L_216, L_255, L_364, L_400, L_402, L_420, L_728, L_768, L_999, L_1000, L_1093, L_1872, L_2000, L_9999, L_12345, L_252645135, L_858993459, L_1103515245, L_1431655765, Lm_1, Lm_2, Lm_8, N_zero, N_cast, N_add, N_mul, N_sub, N_addM, N_lt_tp, N_lt_fp, N_le_tp, N_le_fp, N_eq_tp, N_eq_fp, MN_ltp, MN_lep, NM_ltp, NM_lep, NM_eqp, MN_eqp, MM_lt_tp, MM_lt_fp, MM_le_tp, MM_le_fp, MM_eq_tp, MM_eq_fp, N_cl, N_in_t, N_in_f, M_in, N_div, N_rem, N_nb0, N_nb1, cond_true, cond_false, Bool.not_true, Bool.not_false, Bool.and_true, Bool.true_and, Bool.and_false, Bool.false_and, decide_true, decide_false, Option.bind_some, Option.bind_none, e2]
        refine ih (j + 1) (by omega) _ (Fr_trans F (Fr_iu rfl)) (fun x hx => ?_) fun x hx => ?_
        · by_cases y : x = j
          · rw [y, iu_at]
          · rw [iu_ne y]; exact g1 x (by omega)
        · rw [iu_ne (by omega)]; exact g2 x (by omega)
    exact key 1872 0 rfl h (Fr_refl _ _) (fun x hx => by omega) (fun _ _ => rfl)
  · simp (disch := omega) only [L_0, L_1, L_2, L_3, L_4, L_5, L_6, L_7, L_8, L_9, L_10, L_11, L_12, L_13, L_14, L_15, L_16, L_17, L_18, L_19, L_20, L_21, L_22, L_23, L_24, L_25, L_26, L_27, L_28, L_29, L_30, L_31, L_32, L_33, L_34, L_35, L_40, L_41, L_42, L_43, L_44, L_45, L_47, L_48, L_50, L_53, L_57, L_59, L_60, L_61, L_63, L_64, L_97, L_100, L_101, L_102, L_103, L_122, L_130, L_216, L_255, L_364, L_400, L_402, L_420, L_728, L_768, L_999, L_1000, L_1093, L_1872, L_2000, L_9999, L_12345, L_252645135, L_858993459, L_1103515245, L_1431655765, Lm_1, Lm_2, Lm_8, N_zero, N_cast, N_add, N_mul, N_sub, N_addM, N_lt_tp, N_lt_fp, N_le_tp, N_le_fp, N_eq_tp, N_eq_fp, MN_ltp, MN_lep, NM_ltp, NM_lep, NM_eqp, MN_eqp, MM_lt_tp, MM_lt_fp, MM_le_tp, MM_le_fp, MM_eq_tp, MM_eq_fp, N_cl, N_in_t, N_in_f, M_in, N_div, N_rem, N_nb0, N_nb1, cond_true, cond_false, Bool.not_true, Bool.not_false, Bool.and_true, Bool.true_and, Bool.and_false, Bool.false_and, decide_true, decide_false, Option.bind_some, Option.bind_none, h54]
    refine Ok_w (M_keeps51 (c := c) (by omega) h54) ?_
    rintro h2 ⟨F2, k1, k2, k3, k4⟩
    exact ⟨F2, by rw [k1, Nat.min_eq_left (by omega)], fun _ => ⟨k2, k3⟩, fun t => absurd t z, k4⟩
/-- all of it: h before, h2 behind the class's part, h4 ahead of the reference's keeping, h5 behind it -/
theorem push {h h2 h4 h5 : wb_H} {T : wT} {R R' : wR} {v v' q s B B' nx c : Nat} (C : Core h T R v q s B) (hB : B ≤ B') (hv : v' ≤ B') (hR : R_ok T R') (h1 : nx < 40) (hc : c ≤ 40) (hp : ∀ j, j < c → ∃ R v, R_ok T R ∧ v ≤ B ∧ SR h T (1 + (nx + 40 - c + j) % 40) 100 (48 * j) R v)
    {L : List Nat} (FX : Fr L h h2) (dX1 : wb_dj [100, 1054, 108, 109, 22, 23, 24, 25, 26, 104, 105, 106, 107, 7005, 1059, 5001, 55, 65, 1002, 4009, 1017, 56, 71, 95, 2002, 2003, 61] L = true) (dX2 : wb_dj CL2 L = true) (dX3 : wb_dj TT1 L = true) (dX4 : wb_dj TT2 L = true)
    (xp : XP h h2 nx c) {L2 : List Nat} (FM : Fr L2 h2 h4) (dM : wb_dj CL1 L2 = true) (dM2 : wb_dj CL2 L2 = true) (dM3 : wb_dj TT1 L2 = true) (dM4 : wb_dj TT2 L2 = true) (mp : MP h4 h5 c) (S : SR h4 T 0 96 0 R' v') : Core h5 T R' v' q s B' := by
  have n6 := C.1.1
  obtain ⟨a1, a2, a3, a4, a5, a6, a7, a8, a9, a10, a11, a12, a13⟩ := C
  obtain ⟨x1, x2, x3, x4, x5⟩ := xp
  obtain ⟨m1, m2, m3, m4, m5⟩ := mp
  have gX : ∀ x, wb_mem x [100, 1054, 108, 109, 22, 23, 24, 25, 26, 104, 105, 106, 107, 7005, 1059, 5001, 55, 65, 1002, 4009, 1017, 56, 71, 95, 2002, 2003, 61] = true → wb_mem x L = false := fun x hx => wb_dj_mem dX1 hx
  have gM : ∀ x, wb_mem x CL1 = true → wb_mem x L2 = false := fun x hx => wb_dj_mem dM hx
  have i17 : ∀ o k, h5.1 17 o k = h2.1 17 o k := fun o k => (Fr_i m1 (by rfl)).trans (Fr_i FM (by exact gM 17 rfl))
  have i54 : ∀ o k, h5.1 54 o k = h2.1 54 o k := fun o k => (Fr_i m1 (by rfl)).trans (Fr_i FM (by exact gM 54 rfl))
  have i100 : ∀ k, h4.1 100 0 k = h.1 100 0 k := fun k => (Fr_i FM (by exact gM 100 rfl)).trans (Fr_i FX (by exact gX 100 rfl))
  have i95 : ∀ k, h4.1 95 0 k = h.1 95 0 k := fun k => (Fr_i FM (by exact gM 95 rfl)).trans (Fr_i FX (by exact gX 95 rfl))
  have old : ∀ j i R0 v0 f', SR h T (1 + i) 100 (48 * j) R0 v0 → i ≠ nx → (∀ k, k < 48 → h5.1 100 0 (f' + k) = h.1 100 0 (48 * j + k)) → SR h5 T (1 + i) 100 f' R0 v0 := by
    intro j i R0 v0 f' H ne k0
    refine SR_eq (fun k _ _ => (i17 _ _).trans (x5 _ (by omega) (by omega) k).1) (fun k _ => (i54 _ _).trans (x5 _ (by omega) (by omega) k).2) k0 n6 H
  have new : ∀ f', (∀ k, k < 48 → h5.1 100 0 (f' + k) = h.1 95 0 k) → SR h5 T (1 + nx) 100 f' R v := by
    intro f' k0
    refine SR_eq (fun k hk hk1 => (i17 _ _).trans (x3 k hk hk1)) (fun k hk => (i54 _ _).trans (x4 k hk)) (fun k hk => ?_) n6 a8
    rw [Nat.zero_add]; exact k0 k hk
  have past : Past h5 T B' := by
    refine ⟨(nx + 1) % 40, min (c + 1) 40, Nat.mod_lt _ (by decide), Nat.min_le_right _ _, ?_, ?_, m2, fun j hj => ?_⟩
    · rw [Fr_i m1 (t := 14) (by rfl), Fr_i FM (t := 14) (by exact gM 9001 rfl)]; exact x1
    · rw [Fr_i m1 (t := 14) (by rfl), Fr_i FM (t := 14) (by exact gM 9002 rfl)]; exact x2
    · by_cases z : c = 40
      · obtain ⟨p1, p2⟩ := m4 z
        have e : (nx + 1) % 40 + 40 - min (c + 1) 40 + j = (nx + 1) % 40 + j := by omega
        rw [e]
        by_cases y : j = 39
        · refine ⟨R, v, a2, by omega, ?_⟩
          have e2 : ((nx + 1) % 40 + j) % 40 = nx := by omega
          rw [e2]
          refine new _ fun k hk => ?_
          rw [show 48 * j + k = 1872 + k by omega, p2 k hk]
          exact i95 k
        · obtain ⟨R0, v0, b1, b2, b3⟩ := hp (j + 1) (by omega)
          refine ⟨R0, v0, b1, by omega, ?_⟩
          have e2 : ((nx + 1) % 40 + j) % 40 = (nx + 40 - c + (j + 1)) % 40 := by omega
          rw [e2]
          refine old _ _ _ _ _ b3 (by omega) fun k hk => ?_
          rw [p1 _ (by omega), i100, show 48 * j + k + 48 = 48 * (j + 1) + k by omega]
      · obtain ⟨p1, p2⟩ := m3 (by omega)
        have e : min (c + 1) 40 = c + 1 := by omega
        rw [e]
        by_cases y : j = c
        · refine ⟨R, v, a2, by omega, ?_⟩
          have e2 : ((nx + 1) % 40 + 40 - (c + 1) + j) % 40 = nx := by omega
          rw [e2]
          refine new _ fun k hk => ?_
          rw [y, p2 k hk]
          exact i95 k
        · obtain ⟨R0, v0, b1, b2, b3⟩ := hp j (by omega)
          refine ⟨R0, v0, b1, by omega, ?_⟩
          have e2 : ((nx + 1) % 40 + 40 - (c + 1) + j) % 40 = (nx + 40 - c + j) % 40 := by omega
          rw [e2]
          refine old _ _ _ _ _ b3 (by omega) fun k hk => ?_
          rw [p1 _ (by omega), i100]
  have slots : Slots h5 T B' := by
    intro j hj
    obtain ⟨b, b1, b2, b3, b4⟩ := a10 j hj
    refine ⟨b, b1, ?_, ?_, fun e => ?_⟩
    · rw [Fr_i m1 (t := 61) (by rfl), Fr_i FM (t := 61) (by exact gM 61 rfl), Fr_i FX (t := 61) (by exact gX 61 rfl)]; exact b2
    · rw [Fr_i m1 (t := 108) (by rfl), Fr_i FM (t := 108) (by exact gM 108 rfl), Fr_i FX (t := 108) (by exact gX 108 rfl)]; exact b3
    · obtain ⟨R0, v0, c1, c2, c3⟩ := b4 e
      refine ⟨R0, v0, c1, by omega, ?_⟩
      refine SR_eq (fun k _ _ => (i17 _ _).trans (x5 _ (by omega) (by omega) k).1) (fun k _ => (i54 _ _).trans (x5 _ (by omega) (by omega) k).2) (fun k _ => ?_) n6 c3
      rw [Fr_i m1 (t := 109) (by rfl), Fr_i FM (t := 109) (by exact gM 109 rfl), Fr_i FX (t := 109) (by exact gX 109 rfl)]
  have dia : Diary h5 T := by
    have d1 : Diary h2 T := by
      obtain ⟨k, d1, d2, d3, d4⟩ := a11
      refine ⟨k, d1, (Fr_i FX (by exact gX 7005 rfl)).trans d2, (Fr_i FX (by exact gX 1059 rfl)).trans d3, fun j hj => ?_⟩
      obtain ⟨a, b, u, sg, ld, br, c1, c2, c3, c4, c5, c6, d1, d2, d3, d4, d5, d6, d7, d8, d9⟩ := d4 j hj
      exact ⟨a, b, u, sg, ld, br, c1, c2, c3, c4, c5, c6, (Fr_i FX (by exact gX 22 rfl)).trans d1, (Fr_i FX (by exact gX 104 rfl)).trans d2, (Fr_i FX (by exact gX 23 rfl)).trans d3, (Fr_i FX (by exact gX 105 rfl)).trans d4, (Fr_i FX (by exact gX 106 rfl)).trans d5, (Fr_i FX (by exact gX 24 rfl)).trans d6, (Fr_i FX (by exact gX 25 rfl)).trans d7, (Fr_i FX (by exact gX 26 rfl)).trans d8, (Fr_i FX (by exact gX 107 rfl)).trans d9⟩
    have d2 := Diary_fr FM dM d1
    obtain ⟨k, d1, d2, d3, d4⟩ := d2
    refine ⟨k, d1, (Fr_i m1 (by rfl)).trans d2, (Fr_i m1 (by rfl)).trans d3, fun j hj => ?_⟩
    obtain ⟨a, b, u, sg, ld, br, c1, c2, c3, c4, c5, c6, d1, d2, d3, d4, d5, d6, d7, d8, d9⟩ := d4 j hj
    exact ⟨a, b, u, sg, ld, br, c1, c2, c3, c4, c5, c6, (Fr_i m1 (by rfl)).trans d1, (Fr_i m1 (by rfl)).trans d2, (Fr_i m1 (by rfl)).trans d3, (Fr_i m1 (by rfl)).trans d4, (Fr_i m1 (by rfl)).trans d5, (Fr_i m1 (by rfl)).trans d6, (Fr_i m1 (by rfl)).trans d7, (Fr_i m1 (by rfl)).trans d8, (Fr_i m1 (by rfl)).trans d9⟩
  have tap : Tape h5 := by
    obtain ⟨t, t1, t2, t3, t4⟩ := a12
    refine ⟨t, t1, ?_, ?_, fun j hj => ?_⟩
    · rw [Fr_i m1 (t := 18) (by rfl), Fr_i FM (t := 18) (by exact gM 5001 rfl), Fr_i FX (t := 18) (by exact gX 5001 rfl)]; exact t2
    · rw [Fr_i m1 (t := 21) (by rfl), Fr_i FM (t := 21) (by exact gM 1002 rfl), Fr_i FX (t := 21) (by exact gX 1002 rfl)]; exact t3
    · rw [Fr_i m1 (t := 55) (by rfl), Fr_i FM (t := 55) (by exact gM 55 rfl), Fr_i FX (t := 55) (by exact gX 55 rfl), Fr_i m1 (t := 65) (by rfl), Fr_i FM (t := 65) (by exact gM 65 rfl), Fr_i FX (t := 65) (by exact gX 65 rfl)]; exact t4 j hj
  have key : Keys h5 := by
    obtain ⟨k1, k2, k3⟩ := a13
    refine ⟨?_, fun k hk => ?_, fun k hk => ?_⟩
    · rw [Fr_i m1 (t := 16) (by rfl), Fr_i FM (t := 16) (by exact gM 4009 rfl), Fr_i FX (t := 16) (by exact gX 4009 rfl), Fr_i m1 (t := 21) (by rfl), Fr_i FM (t := 21) (by exact gM 1017 rfl), Fr_i FX (t := 21) (by exact gX 1017 rfl)]; exact k1
    · rw [Fr_l m1 (t := 56) (by rfl), Fr_l FM (t := 56) (by exact gM 56 rfl), Fr_l FX (t := 56) (by exact gX 56 rfl)]; exact k2 k hk
    · rw [Fr_l m1 (t := 71) (by rfl), Fr_l FM (t := 71) (by exact gM 71 rfl), Fr_l FX (t := 71) (by exact gX 71 rfl)]; exact k3 k hk
  refine ⟨a1, hR, hv, XT_fr m1 rfl (XT_fr FM dM2 (XT_fr FX dX2 a4)), MT_fr m1 rfl rfl (MT_fr FM dM3 dM4 (MT_fr FX dX3 dX4 a5)), ?_, ?_, ?_, past, slots, dia, tap, key⟩
  · rw [Fr_m m1 (t := 20) (by rfl), Fr_m FM (t := 20) (by exact gM 2002 rfl), Fr_m FX (t := 20) (by exact gX 2002 rfl)]; exact a6
  · rw [Fr_m m1 (t := 20) (by rfl), Fr_m FM (t := 20) (by exact gM 2003 rfl), Fr_m FX (t := 20) (by exact gX 2003 rfl)]; exact a7
  · exact SR_eq (fun k _ _ => Fr_i m1 (by rfl)) (fun k _ => Fr_i m1 (by rfl)) (fun k hk => by rw [Nat.zero_add]; exact m5 k hk) n6 S
end
