/-! The class's evening: rows of bins and what they weigh. -/
section
variable {sc : wb_X} {q R : Nat} {A : wa}
def inP (h0 h : wb_H) (D : wD) (p j : Nat) : Prop := Fr [32, 33, 36, 3012] h0 h ∧ (∀ r, r < 3 ^ p → h.1 32 0 (rf p + r) = nN (if r < j then 0 else D.1 r)) ∧ (∀ r, r < 3 ^ p → h.1 33 0 (rf p + r) = nN (if r < j then 0 else D.2 r)) ∧ (∀ x, rf (p + 1) ≤ x → h.1 32 0 x = h0.1 32 0 x ∧ h.1 33 0 x = h0.1 33 0 x)
def ouP (h0 h : wb_H) (D : wD) (p : Nat) : Prop := Fr [32, 33, 36, 3012] h0 h ∧ (∀ r, r < 3 ^ p → h.1 32 0 (rf p + r) = nN ((dright D p).1 r)) ∧ (∀ r, r < 3 ^ p → h.1 33 0 (rf p + r) = nN ((dright D p).2 r)) ∧ (∀ x, rf (p + 1) ≤ x → h.1 32 0 x = h0.1 32 0 x ∧ h.1 33 0 x = h0.1 33 0 x) ∧ (∀ i, i < 6 → h.1 36 0 i = nN 0) ∧ h.1 11 0 12 = nN 0
theorem X_putRight_L {h0 : wb_H} {D : wD} {p : Nat} (hp : p ≤ 6) : ∀ k j, j + k = 3 ^ p → ∀ h, inP h0 h D p j → Ok (q_Evening_putRight_L14 sc h (nN p) (nN (rf p)) (nN (sm j D.1)) (nN (sm j D.2)) (nN (rf p + j))) (fun h' => ouP h0 h' D p) := by
  have b1 := pow3_le p (by omega)
  have b2 := rf_succ p (by omega)
  have b3 := rf_le (p + 1) (by omega) 7 (by omega) (by omega)
  rw [rf_7] at b3
  have b4 := pow3_pos p
  intro k
  induction k with
  | zero =>
    intro j hj h I
    rw [Nat.add_zero] at hj
    subst hj
    rw [q_Evening_putRight_L14_eq]
    simp (disch := omega) only [L_0, L_1, L_2, L_3, L_4, L_5, L_6, L_7, L_8, L_9, L_10, L_11, L_12, L_13, L_14, L_15, L_16, L_17, L_18, L_19, L_20, L_21, L_22, L_23, L_24, L_25, L_26, L_27, L_28, L_29, L_30, L_31, L_32, L_33, L_34, L_35, L_40, L_41, L_42, L_43, L_44, L_45, L_47, L_48, L_50, L_53, L_57, L_59, L_60, L_61, L_63, L_64, L_97, L_100, L_101, L_102, L_103, L_122, L_130, L_216, L_255, L_364, L_400, L_402, L_420, L_728, L_768, L_999, L_1000, L_1093, L_1872, L_2000, L_9999, L_12345, L_252645135, L_858993459, L_1103515245, L_1431655765, Lm_1, Lm_2, Lm_8, N_zero, N_cast, N_add, N_mul, N_sub, N_addM, N_lt_tp, N_lt_fp, N_le_tp, N_le_fp, N_eq_tp, N_eq_fp, MN_ltp, MN_lep, NM_ltp, NM_lep, NM_eqp, MN_eqp, MM_lt_tp, MM_lt_fp, MM_le_tp, MM_le_fp, MM_eq_tp, MM_eq_fp, N_cl, N_in_t, N_in_f, M_in, N_div, N_rem, N_nb0, N_nb1, cond_true, cond_false, Bool.not_true, Bool.not_false, Bool.and_true, Bool.true_and, Bool.and_false, Bool.false_and, decide_true, decide_false, Option.bind_some, Option.bind_none, tr_1, tr_2, tr_1z, tr_2z, t3_1, t3_2]
    rw [show nN 0 = nN 0 from rfl, fill2_36]
    simp only [Option.bind_some]
    refine Ok_some ⟨?_, ?_, ?_, ?_, ?_, ?_⟩
    · exact Fr_trans I.1 (Fr_trans (Fr_trans (Fr_trans (Fr_iu rfl) (Fr_iu rfl)) (Fr_iu rfl)) (Fr_fi (fun _ => rfl)))
    · intro r hr
      rw [fi_nt (by decide), iu_nt (by decide), iu_nt (by decide)]
      unfold dright
      by_cases e : r = (3 ^ p - 1) / 2
      · simp only [if_pos e]
        rw [e, iu_at]
      · simp only [if_neg e]
        rw [iu_ne (by omega), I.2.1 r hr, if_pos hr]
    · intro r hr
      rw [fi_nt (by decide), iu_nt (by decide)]
      unfold dright
      by_cases e : r = 0
      · simp only [if_pos e]
        rw [e, Nat.add_zero, iu_at]
      · simp only [if_neg e]
        rw [iu_ne (by omega), iu_nt (by decide), I.2.2.1 r hr, if_pos hr]
    · intro x hx
      refine ⟨?_, ?_⟩
      · rw [fi_nt (by decide), iu_nt (by decide), iu_nt (by decide), iu_ne (by omega)]
        exact (I.2.2.2 x hx).1
      · rw [fi_nt (by decide), iu_nt (by decide), iu_ne (by omega), iu_nt (by decide)]
        exact (I.2.2.2 x hx).2
    · intro i hi
      rw [fi_in (by omega) hi]
    · rw [fi_nt (by decide), iu_at]
  | succ k ih =>
    intro j hj h I
    have f1 := I.2.1 j (by omega)
    have f2 := I.2.2.1 j (by omega)
    rw [if_neg (by omega)] at f1 f2
    have ih2 := ih (j + 1) (by omega)
    rw [show rf p + (j + 1) = rf p + j + 1 by omega] at ih2
    rw [q_Evening_putRight_L14_eq]
    simp (disch := omega) only [L_0, L_1, L_2, L_3, L_4, L_5, L_6, L_7, L_8, L_9, L_10, L_11, L_12, L_13, L_14, L_15, L_16, L_17, L_18, L_19, L_20, L_21, L_22, L_23, L_24, L_25, L_26, L_27, L_28, L_29, L_30, L_31, L_32, L_33, L_34, L_35, L_40, L_41, L_42, L_43, L_44, L_45, L_47, L_48, L_50, L_53, L_57, L_59, L_60, L_61, L_63, L_64, L_97, L_100, L_101, L_102, L_103, L_122, L_130, L_216, L_255, L_364, L_400, L_402, L_420, L_728, L_768, L_999, L_1000, L_1093, L_1872, L_2000, L_9999, L_12345, L_252645135, L_858993459, L_1103515245, L_1431655765, Lm_1, Lm_2, Lm_8, N_zero, N_cast, N_add, N_mul, N_sub, N_addM, N_lt_tp, N_lt_fp, N_le_tp, N_le_fp, N_eq_tp, N_eq_fp, MN_ltp, MN_lep, NM_ltp, NM_lep, NM_eqp, MN_eqp, MM_lt_tp, MM_lt_fp, MM_le_tp, MM_le_fp, MM_eq_tp, MM_eq_fp, N_cl, N_in_t, N_in_f, M_in, N_div, N_rem, N_nb0, N_nb1, cond_true, cond_false, Bool.not_true, Bool.not_false, Bool.and_true, Bool.true_and, Bool.and_false, Bool.false_and, decide_true, decide_false, Option.bind_some, Option.bind_none, tr_1, tr_2, tr_1z, tr_2z, f1, f2]
    refine ih2 _ ⟨Fr_trans I.1 (Fr_trans (Fr_iu rfl) (Fr_iu rfl)), ?_, ?_, ?_⟩
    · intro r hr
      rw [iu_nt (by decide)]
      by_cases e : r = j
      · rw [e, iu_at, if_pos (by omega)]
      · rw [iu_ne (by omega), I.2.1 r hr]
        by_cases t : r < j
        · rw [if_pos t, if_pos (by omega)]
        · rw [if_neg t, if_neg (by omega)]
    · intro r hr
      by_cases e : r = j
      · rw [e, iu_at, if_pos (by omega)]
      · rw [iu_ne (by omega), iu_nt (by decide), I.2.2.1 r hr]
        by_cases t : r < j
        · rw [if_pos t, if_pos (by omega)]
        · rw [if_neg t, if_neg (by omega)]
    · intro x hx
      refine ⟨?_, ?_⟩
      · rw [iu_nt (by decide), iu_ne (by omega)]
        exact (I.2.2.2 x hx).1
      · rw [iu_ne (by omega), iu_nt (by decide)]
        exact (I.2.2.2 x hx).2
theorem X_putRight {h : wb_H} {D : wD} {p : Nat} (hp : p ≤ 6) (g1 : ∀ r, r < 3 ^ p → h.1 32 0 (rf p + r) = nN (D.1 r)) (g2 : ∀ r, r < 3 ^ p → h.1 33 0 (rf p + r) = nN (D.2 r)) : Ok (q_Evening_putRight sc h (nN p)) (fun h' => ouP h h' D p) := by
  rw [q_Evening_putRight_eq]
  simp (disch := omega) only [L_0, L_1, L_2, L_3, L_4, L_5, L_6, L_7, L_8, L_9, L_10, L_11, L_12, L_13, L_14, L_15, L_16, L_17, L_18, L_19, L_20, L_21, L_22, L_23, L_24, L_25, L_26, L_27, L_28, L_29, L_30, L_31, L_32, L_33, L_34, L_35, L_40, L_41, L_42, L_43, L_44, L_45, L_47, L_48, L_50, L_53, L_57, L_59, L_60, L_61, L_63, L_64, L_97, L_100, L_101, L_102, L_103, L_122, L_130, L_216, L_255, L_364, L_400, L_402, L_420, L_728, L_768, L_999, L_1000, L_1093, L_1872, L_2000, L_9999, L_12345, L_252645135, L_858993459, L_1103515245, L_1431655765, Lm_1, Lm_2, Lm_8, N_zero, N_cast, N_add, N_mul, N_sub, N_addM, N_lt_tp, N_lt_fp, N_le_tp, N_le_fp, N_eq_tp, N_eq_fp, MN_ltp, MN_lep, NM_ltp, NM_lep, NM_eqp, MN_eqp, MM_lt_tp, MM_lt_fp, MM_le_tp, MM_le_fp, MM_eq_tp, MM_eq_fp, N_cl, N_in_t, N_in_f, M_in, N_div, N_rem, N_nb0, N_nb1, cond_true, cond_false, Bool.not_true, Bool.not_false, Bool.and_true, Bool.true_and, Bool.and_false, Bool.false_and, decide_true, decide_false, Option.bind_some, Option.bind_none, tr_1, tr_2, tr_1z, tr_2z]
  refine X_putRight_L hp (3 ^ p) 0 (Nat.zero_add _) h ⟨Fr_refl _ _, fun r hr => ?_, fun r hr => ?_, fun x _ => ⟨rfl, rfl⟩⟩
  · rw [if_neg (by omega)]; exact g1 r hr
  · rw [if_neg (by omega)]; exact g2 r hr
def inG (h0 h : wb_H) (A : wa) (D : wD) (p j : Nat) : Prop := Fr [34, 35] h0 h ∧ (∀ i, i < 3 ^ sk A p → h.1 34 0 (rf p + i) = nN (sm j (fun x => if x / 3 ^ (p - sk A p) = i then D.1 x else 0))) ∧ (∀ i, i < 3 ^ sk A p → h.1 35 0 (rf p + i) = nN (sm j (fun x => if x / 3 ^ (p - sk A p) = i then D.2 x else 0))) ∧ (∀ x, x < rf p → h.1 34 0 x = h0.1 34 0 x ∧ h.1 35 0 x = h0.1 35 0 x)
theorem X_gather_L {h0 : wb_H} {D : wD} {p : Nat} (hp : p < 6) (g1 : ∀ r, r < 3 ^ p → h0.1 32 0 (rf p + r) = nN (D.1 r)) (g2 : ∀ r, r < 3 ^ p → h0.1 33 0 (rf p + r) = nN (D.2 r)) : ∀ k j, j + k = 3 ^ p → ∀ h, inG h0 h A D p j → Ok (q_Evening_gatherSeen_L54 sc h (nN p) (nN (rf p)) (nN (3 ^ (p - sk A p))) (nN j)) (fun h' => inG h0 h' A D p (3 ^ p)) := by
  have b0 := sk_le A p
  have b1 := pow3_le p (by omega)
  have b2 := rf_succ p (by omega)
  have b3 := rf_le (p + 1) (by omega) 6 (by omega) (by omega)
  rw [rf_6] at b3
  have b4 := pow3_pos (p - sk A p)
  have b5 := pow3_le (p - sk A p) (by omega)
  intro k
  induction k with
  | zero =>
    intro j hj h I
    rw [Nat.add_zero] at hj
    subst hj
    rw [q_Evening_gatherSeen_L54_eq]
    simp (disch := omega) only [L_0, L_1, L_2, L_3, L_4, L_5, L_6, L_7, L_8, L_9, L_10, L_11, L_12, L_13, L_14, L_15, L_16, L_17, L_18, L_19, L_20, L_21, L_22, L_23, L_24, L_25, L_26, L_27, L_28, L_29, L_30, L_31, L_32, L_33, L_34, L_35, L_40, L_41, L_42, L_43, L_44, L_45, L_47, L_48, L_50, L_53, L_57, L_59, L_60, L_61, L_63, L_64, L_97, L_100, L_101, L_102, L_103, L_122, L_130, L_216, L_255, L_364, L_400, L_402, L_420, L_728, L_768, L_999, L_1000, L_1093, L_1872, L_2000, L_9999, L_12345, L_252645135, L_858993459, L_1103515245, L_1431655765, Lm_1, Lm_2, Lm_8, N_zero, N_cast, N_add, N_mul, N_sub, N_addM, N_lt_tp, N_lt_fp, N_le_tp, N_le_fp, N_eq_tp, N_eq_fp, MN_ltp, MN_lep, NM_ltp, NM_lep, NM_eqp, MN_eqp, MM_lt_tp, MM_lt_fp, MM_le_tp, MM_le_fp, MM_eq_tp, MM_eq_fp, N_cl, N_in_t, N_in_f, M_in, N_div, N_rem, N_nb0, N_nb1, cond_true, cond_false, Bool.not_true, Bool.not_false, Bool.and_true, Bool.true_and, Bool.and_false, Bool.false_and, decide_true, decide_false, Option.bind_some, Option.bind_none, t3_1, t3_2]
    exact Ok_some I
  | succ k ih =>
    intro j hj h I
    have d1 := div_pow_lt (p := p) (m := p - sk A p) (r := j) (Nat.sub_le _ _) (by omega)
    rw [show p - (p - sk A p) = sk A p by omega] at d1
    have d2 := pow3_mono b0
    have f1 : h.1 32 0 (rf p + j) = nN (D.1 j) := (Fr_i I.1 (by rfl)).trans (g1 j (by omega))
    have f2 : h.1 33 0 (rf p + j) = nN (D.2 j) := (Fr_i I.1 (by rfl)).trans (g2 j (by omega))
    have f3 := I.2.1 _ d1
    have f4 := I.2.2.1 _ d1
    rw [q_Evening_gatherSeen_L54_eq]
    simp (disch := omega) only [L_0, L_1, L_2, L_3, L_4, L_5, L_6, L_7, L_8, L_9, L_10, L_11, L_12, L_13, L_14, L_15, L_16, L_17, L_18, L_19, L_20, L_21, L_22, L_23, L_24, L_25, L_26, L_27, L_28, L_29, L_30, L_31, L_32, L_33, L_34, L_35, L_40, L_41, L_42, L_43, L_44, L_45, L_47, L_48, L_50, L_53, L_57, L_59, L_60, L_61, L_63, L_64, L_97, L_100, L_101, L_102, L_103, L_122, L_130, L_216, L_255, L_364, L_400, L_402, L_420, L_728, L_768, L_999, L_1000, L_1093, L_1872, L_2000, L_9999, L_12345, L_252645135, L_858993459, L_1103515245, L_1431655765, Lm_1, Lm_2, Lm_8, N_zero, N_cast, N_add, N_mul, N_sub, N_addM, N_lt_tp, N_lt_fp, N_le_tp, N_le_fp, N_eq_tp, N_eq_fp, MN_ltp, MN_lep, NM_ltp, NM_lep, NM_eqp, MN_eqp, MM_lt_tp, MM_lt_fp, MM_le_tp, MM_le_fp, MM_eq_tp, MM_eq_fp, N_cl, N_in_t, N_in_f, M_in, N_div, N_rem, N_nb0, N_nb1, cond_true, cond_false, Bool.not_true, Bool.not_false, Bool.and_true, Bool.true_and, Bool.and_false, Bool.false_and, decide_true, decide_false, Option.bind_some, Option.bind_none, t3_1, t3_2, f1, f3, iu_nt (show 35 ≠ 34 by decide), iu_nt (show 33 ≠ 34 by decide), f2, f4]
    rw [q_Evening_gatherSeen_L110_eq]
    simp (disch := omega) only [L_0, L_1, L_2, L_3, L_4, L_5, L_6, L_7, L_8, L_9, L_10, L_11, L_12, L_13, L_14, L_15, L_16, L_17, L_18, L_19, L_20, L_21, L_22, L_23, L_24, L_25, L_26, L_27, L_28, L_29, L_30, L_31, L_32, L_33, L_34, L_35, L_40, L_41, L_42, L_43, L_44, L_45, L_47, L_48, L_50, L_53, L_57, L_59, L_60, L_61, L_63, L_64, L_97, L_100, L_101, L_102, L_103, L_122, L_130, L_216, L_255, L_364, L_400, L_402, L_420, L_728, L_768, L_999, L_1000, L_1093, L_1872, L_2000, L_9999, L_12345, L_252645135, L_858993459, L_1103515245, L_1431655765, Lm_1, Lm_2, Lm_8, N_zero, N_cast, N_add, N_mul, N_sub, N_addM, N_lt_tp, N_lt_fp, N_le_tp, N_le_fp, N_eq_tp, N_eq_fp, MN_ltp, MN_lep, NM_ltp, NM_lep, NM_eqp, MN_eqp, MM_lt_tp, MM_lt_fp, MM_le_tp, MM_le_fp, MM_eq_tp, MM_eq_fp, N_cl, N_in_t, N_in_f, M_in, N_div, N_rem, N_nb0, N_nb1, cond_true, cond_false, Bool.not_true, Bool.not_false, Bool.and_true, Bool.true_and, Bool.and_false, Bool.false_and, decide_true, decide_false, Option.bind_some, Option.bind_none]
    refine ih (j + 1) (by omega) _ ⟨Fr_trans I.1 (Fr_trans (Fr_iu rfl) (Fr_iu rfl)), ?_, ?_, ?_⟩
    · intro i hi
      rw [iu_nt (by decide), sm]
      by_cases e : j / 3 ^ (p - sk A p) = i
      · rw [if_pos e, ← e, iu_at]
      · rw [if_neg e, iu_ne (by omega), I.2.1 i hi, Nat.add_zero]
    · intro i hi
      rw [sm]
      by_cases e : j / 3 ^ (p - sk A p) = i
      · rw [if_pos e, ← e, iu_at]
      · rw [if_neg e, iu_ne (by omega), iu_nt (by decide), I.2.2.1 i hi, Nat.add_zero]
    · intro x hx
      have e9 : rf p ≤ rf p + j / 3 ^ (p - sk A p) := Nat.le_add_right _ _
      refine ⟨?_, ?_⟩
      · rw [iu_nt (by decide), iu_ne (by omega)]
        exact (I.2.2.2 x hx).1
      · rw [iu_ne (by omega), iu_nt (by decide)]
        exact (I.2.2.2 x hx).2
theorem X_gather {h : wb_H} {D : wD} {p : Nat} (hA : wa_ok A) (hX : XA h q A) (hp : p < an A) (g1 : ∀ r, r < 3 ^ p → h.1 32 0 (rf p + r) = nN (D.1 r)) (g2 : ∀ r, r < 3 ^ p → h.1 33 0 (rf p + r) = nN (D.2 r)) : Ok (q_Evening_gatherSeen sc h (nN p)) (fun h' => Fr [34, 35] h h' ∧ XS h' A D p ∧ (∀ x, x < rf p → h'.1 34 0 x = h.1 34 0 x ∧ h'.1 35 0 x = h.1 35 0 x)) := by
  have h6 := hA.1
  have b0 := sk_le A p
  have b2 := rf_succ p (by omega)
  have b3 := rf_le (p + 1) (by omega) 6 (by omega) (by omega)
  rw [rf_6] at b3
  have d2 := pow3_mono b0
  have b4 := pow3_pos p
  have f := hX.2.2.2.2.2.1 p hp
  rw [q_Evening_gatherSeen_eq]
  simp (disch := omega) only [L_0, L_1, L_2, L_3, L_4, L_5, L_6, L_7, L_8, L_9, L_10, L_11, L_12, L_13, L_14, L_15, L_16, L_17, L_18, L_19, L_20, L_21, L_22, L_23, L_24, L_25, L_26, L_27, L_28, L_29, L_30, L_31, L_32, L_33, L_34, L_35, L_40, L_41, L_42, L_43, L_44, L_45, L_47, L_48, L_50, L_53, L_57, L_59, L_60, L_61, L_63, L_64, L_97, L_100, L_101, L_102, L_103, L_122, L_130, L_216, L_255, L_364, L_400, L_402, L_420, L_728, L_768, L_999, L_1000, L_1093, L_1872, L_2000, L_9999, L_12345, L_252645135, L_858993459, L_1103515245, L_1431655765, Lm_1, Lm_2, Lm_8, N_zero, N_cast, N_add, N_mul, N_sub, N_addM, N_lt_tp, N_lt_fp, N_le_tp, N_le_fp, N_eq_tp, N_eq_fp, MN_ltp, MN_lep, NM_ltp, NM_lep, NM_eqp, MN_eqp, MM_lt_tp, MM_lt_fp, MM_le_tp, MM_le_fp, MM_eq_tp, MM_eq_fp, N_cl, N_in_t, N_in_f, M_in, N_div, N_rem, N_nb0, N_nb1, cond_true, cond_false, Bool.not_true, Bool.not_false, Bool.and_true, Bool.true_and, Bool.and_false, Bool.false_and, decide_true, decide_false, Option.bind_some, Option.bind_none, tr_1, tr_2, tr_1z, tr_2z, t3_1, t3_2, f]
  rw [fill4_34 (by omega) (by omega)]
  simp (disch := omega) only [L_0, L_1, L_2, L_3, L_4, L_5, L_6, L_7, L_8, L_9, L_10, L_11, L_12, L_13, L_14, L_15, L_16, L_17, L_18, L_19, L_20, L_21, L_22, L_23, L_24, L_25, L_26, L_27, L_28, L_29, L_30, L_31, L_32, L_33, L_34, L_35, L_40, L_41, L_42, L_43, L_44, L_45, L_47, L_48, L_50, L_53, L_57, L_59, L_60, L_61, L_63, L_64, L_97, L_100, L_101, L_102, L_103, L_122, L_130, L_216, L_255, L_364, L_400, L_402, L_420, L_728, L_768, L_999, L_1000, L_1093, L_1872, L_2000, L_9999, L_12345, L_252645135, L_858993459, L_1103515245, L_1431655765, Lm_1, Lm_2, Lm_8, N_zero, N_cast, N_add, N_mul, N_sub, N_addM, N_lt_tp, N_lt_fp, N_le_tp, N_le_fp, N_eq_tp, N_eq_fp, MN_ltp, MN_lep, NM_ltp, NM_lep, NM_eqp, MN_eqp, MM_lt_tp, MM_lt_fp, MM_le_tp, MM_le_fp, MM_eq_tp, MM_eq_fp, N_cl, N_in_t, N_in_f, M_in, N_div, N_rem, N_nb0, N_nb1, cond_true, cond_false, Bool.not_true, Bool.not_false, Bool.and_true, Bool.true_and, Bool.and_false, Bool.false_and, decide_true, decide_false, Option.bind_some, Option.bind_none, tr_1, tr_2, tr_1z, tr_2z]
  rw [fill4_35 (by omega) (by omega)]
  simp only [Option.bind_some]
  have F : Fr [34, 35] h (wb_fi (wb_fi h 34 0 (rf p) (rf (p + 1)) (fun _ => nN 0)) 35 0 (rf p) (rf (p + 1)) (fun _ => nN 0)) := Fr_trans (Fr_fi (fun _ => rfl)) (Fr_fi (fun _ => rfl))
  refine Ok_w (X_gather_L (sc := sc) (A := A) (h0 := h) (D := D) (p := p) (by omega) g1 g2 (3 ^ p) 0 (Nat.zero_add _) _ ⟨F, ?_, ?_, ?_⟩) ?_
  · intro i hi
    rw [fi_nt (by decide), fi_in (by omega) (by omega)]
    rfl
  · intro i hi
    rw [fi_in (by omega) (by omega)]
    rfl
  · intro x hx
    rw [fi_nt (by decide), fi_out (Or.inl hx), fi_out (Or.inl hx), fi_nt (by decide)]
    exact ⟨rfl, rfl⟩
  · rintro h' ⟨J1, J2, J3, J4⟩
    exact ⟨J1, ⟨J2, J3⟩, J4⟩
def laP (h h' : wb_H) (A : wa) (p r b u v : Nat) : Prop := Fr [32, 33, 36, 3012] h h' ∧ (∀ x, h'.1 32 0 x = if x = rf (p + 1) + r + b * 3 ^ p then h.1 32 0 x + nN u else h.1 32 0 x) ∧ (∀ x, h'.1 33 0 x = if x = rf (p + 1) + r + b * 3 ^ p then h.1 33 0 x + nN v else h.1 33 0 x) ∧
  (∀ i, h'.1 36 0 i = if i = aho A p ∧ b ≠ 2 then h.1 36 0 i + nN ((if b = 1 then v else u) * beh A p) else h.1 36 0 i) ∧ h'.1 11 0 12 = if b = 2 then h.1 11 0 12 + nN ((u + v) * beh A p) else h.1 11 0 12
theorem X_lay {h : wb_H} (hA : wa_ok A) (hX : XA h q A) {p r b u v : Nat} (hp : p < an A) (hr : r < 3 ^ p) (hb : b ≤ 2) : Ok (q_Evening_lay sc h (nN p) (nN r) (nN b) (nN u) (nN v)) (fun h' => laP h h' A p r b u v) := by
  have h6 := hA.1
  have hh := hA.2.2.2.1 p hp
  have b1 := pow3_le p (by omega)
  have b2 := rf_succ (p + 1) (by omega)
  have b3 := rf_le (p + 1 + 1) (by omega) 7 (by omega) (by omega)
  rw [rf_7, b2, Nat.pow_succ] at b3
  have b4 : b * 3 ^ p ≤ 2 * 3 ^ p := Nat.mul_le_mul_right _ hb
  have b5 : beh A p = 10 ^ (an A - 1 - p) := by unfold beh; rw [show an A - (p + 1) = an A - 1 - p by omega]
  obtain ⟨a1, a2, a3, a4, a5, -⟩ := hX
  have f := a5 p hp
  rw [q_Evening_lay_eq]
  simp (disch := omega) only [L_0, L_1, L_2, L_3, L_4, L_5, L_6, L_7, L_8, L_9, L_10, L_11, L_12, L_13, L_14, L_15, L_16, L_17, L_18, L_19, L_20, L_21, L_22, L_23, L_24, L_25, L_26, L_27, L_28, L_29, L_30, L_31, L_32, L_33, L_34, L_35, L_40, L_41, L_42, L_43, L_44, L_45, L_47, L_48, L_50, L_53, L_57, L_59, L_60, L_61, L_63, L_64, L_97, L_100, L_101, L_102, L_103, L_122, L_130, L_216, L_255, L_364, L_400, L_402, L_420, L_728, L_768, L_999, L_1000, L_1093, L_1872, L_2000, L_9999, L_12345, L_252645135, L_858993459, L_1103515245, L_1431655765, Lm_1, Lm_2, Lm_8, N_zero, N_cast, N_add, N_mul, N_sub, N_addM, N_lt_tp, N_lt_fp, N_le_tp, N_le_fp, N_eq_tp, N_eq_fp, MN_ltp, MN_lep, NM_ltp, NM_lep, NM_eqp, MN_eqp, MM_lt_tp, MM_lt_fp, MM_le_tp, MM_le_fp, MM_eq_tp, MM_eq_fp, N_cl, N_in_t, N_in_f, M_in, N_div, N_rem, N_nb0, N_nb1, cond_true, cond_false, Bool.not_true, Bool.not_false, Bool.and_true, Bool.true_and, Bool.and_false, Bool.false_and, decide_true, decide_false, Option.bind_some, Option.bind_none, tr_1, tr_2, tr_1z, tr_2z, t3_1, t3_2]
  rw [q_Evening_lay_L31_eq]
  simp (disch := omega) only [L_0, L_1, L_2, L_3, L_4, L_5, L_6, L_7, L_8, L_9, L_10, L_11, L_12, L_13, L_14, L_15, L_16, L_17, L_18, L_19, L_20, L_21, L_22, L_23, L_24, L_25, L_26, L_27, L_28, L_29, L_30, L_31, L_32, L_33, L_34, L_35, L_40, L_41, L_42, L_43, L_44, L_45, L_47, L_48, L_50, L_53, L_57, L_59, L_60, L_61, L_63, L_64, L_97, L_100, L_101, L_102, L_103, L_122, L_130, L_216, L_255, L_364, L_400, L_402, L_420, L_728, L_768, L_999, L_1000, L_1093, L_1872, L_2000, L_9999, L_12345, L_252645135, L_858993459, L_1103515245, L_1431655765, Lm_1, Lm_2, Lm_8, N_zero, N_cast, N_add, N_mul, N_sub, N_addM, N_lt_tp, N_lt_fp, N_le_tp, N_le_fp, N_eq_tp, N_eq_fp, MN_ltp, MN_lep, NM_ltp, NM_lep, NM_eqp, MN_eqp, MM_lt_tp, MM_lt_fp, MM_le_tp, MM_le_fp, MM_eq_tp, MM_eq_fp, N_cl, N_in_t, N_in_f, M_in, N_div, N_rem, N_nb0, N_nb1, cond_true, cond_false, Bool.not_true, Bool.not_false, Bool.and_true, Bool.true_and, Bool.and_false, Bool.false_and, decide_true, decide_false, Option.bind_some, Option.bind_none, iu_nt (show 11 ≠ 33 by decide), iu_nt (show 11 ≠ 32 by decide), iu_nt (show 27 ≠ 33 by decide), iu_nt (show 27 ≠ 32 by decide), iu_nt (show 36 ≠ 33 by decide), iu_nt (show 36 ≠ 32 by decide), iu_nt (show 33 ≠ 32 by decide), a3, f, tt_1, tt_2]
  unfold laP
  rw [b5]
  generalize rf (p + 1) + r + b * 3 ^ p = c
  generalize 10 ^ (an A - 1 - p) = e
  have base : Fr [32, 33, 36, 3012] h (wb_iu (wb_iu h 32 0 c (h.1 32 0 c + nN u)) 33 0 c (h.1 33 0 c + nN v)) := Fr_trans (Fr_iu rfl) (Fr_iu rfl)
  have c32 : ∀ x, (wb_iu (wb_iu h 32 0 c (h.1 32 0 c + nN u)) 33 0 c (h.1 33 0 c + nN v)).1 32 0 x = if x = c then h.1 32 0 x + nN u else h.1 32 0 x := by
    intro x
    rw [iu_nt (by decide)]
    by_cases t : x = c
    · rw [if_pos t, t, iu_at]
    · rw [if_neg t, iu_ne t]
  have c33 : ∀ x, (wb_iu (wb_iu h 32 0 c (h.1 32 0 c + nN u)) 33 0 c (h.1 33 0 c + nN v)).1 33 0 x = if x = c then h.1 33 0 x + nN v else h.1 33 0 x := by
    intro x
    by_cases t : x = c
    · rw [if_pos t, t, iu_at]
    · rw [if_neg t, iu_ne t, iu_nt (by decide)]
  rcases (show b = 0 ∨ b = 1 ∨ b = 2 by omega) with t | t | t
  · subst t
    simp (disch := omega) only [L_0, L_1, L_2, L_3, L_4, L_5, L_6, L_7, L_8, L_9, L_10, L_11, L_12, L_13, L_14, L_15, L_16, L_17, L_18, L_19, L_20, L_21, L_22, L_23, L_24, L_25, L_26, L_27, L_28, L_29, L_30, L_31, L_32, L_33, L_34, L_35, L_40, L_41, L_42, L_43, L_44, L_45, L_47, L_48, L_50, L_53, L_57, L_59, L_60, L_61, L_63, L_64, L_97, L_100, L_101, L_102, L_103, L_122, L_130, L_216, L_255, L_364, L_400, L_402, L_420, L_728, L_768, L_999, L_1000, L_1093, L_1872, L_2000, L_9999, L_12345, L_252645135, L_858993459, L_1103515245, L_1431655765, Lm_1, Lm_2, Lm_8, N_zero, N_cast, N_add, N_mul, N_sub, N_addM, N_lt_tp, N_lt_fp, N_le_tp, N_le_fp, N_eq_tp, N_eq_fp, MN_ltp, MN_lep, NM_ltp, NM_lep, NM_eqp, MN_eqp, MM_lt_tp, MM_lt_fp, MM_le_tp, MM_le_fp, MM_eq_tp, MM_eq_fp, N_cl, N_in_t, N_in_f, M_in, N_div, N_rem, N_nb0, N_nb1, cond_true, cond_false, Bool.not_true, Bool.not_false, Bool.and_true, Bool.true_and, Bool.and_false, Bool.false_and, decide_true, decide_false, Option.bind_some, Option.bind_none]
    rw [q_Evening_lay_L111_eq]
    refine Ok_some ⟨Fr_trans base (Fr_iu rfl), fun x => ?_, fun x => ?_, fun i => ?_, ?_⟩
    · rw [iu_nt (by decide)]; exact c32 x
    · rw [iu_nt (by decide)]; exact c33 x
    · rw [if_neg (show ¬ (0 : Nat) = 1 by decide)]
      by_cases k : i = aho A p
      · rw [if_pos ⟨k, by decide⟩, k, iu_at]
      · rw [if_neg (fun z => k z.1), iu_ne k, iu_nt (by decide), iu_nt (by decide)]
    · rw [if_neg (by decide), iu_nt (by decide), iu_nt (by decide), iu_nt (by decide)]
  · subst t
    simp (disch := omega) only [L_0, L_1, L_2, L_3, L_4, L_5, L_6, L_7, L_8, L_9, L_10, L_11, L_12, L_13, L_14, L_15, L_16, L_17, L_18, L_19, L_20, L_21, L_22, L_23, L_24, L_25, L_26, L_27, L_28, L_29, L_30, L_31, L_32, L_33, L_34, L_35, L_40, L_41, L_42, L_43, L_44, L_45, L_47, L_48, L_50, L_53, L_57, L_59, L_60, L_61, L_63, L_64, L_97, L_100, L_101, L_102, L_103, L_122, L_130, L_216, L_255, L_364, L_400, L_402, L_420, L_728, L_768, L_999, L_1000, L_1093, L_1872, L_2000, L_9999, L_12345, L_252645135, L_858993459, L_1103515245, L_1431655765, Lm_1, Lm_2, Lm_8, N_zero, N_cast, N_add, N_mul, N_sub, N_addM, N_lt_tp, N_lt_fp, N_le_tp, N_le_fp, N_eq_tp, N_eq_fp, MN_ltp, MN_lep, NM_ltp, NM_lep, NM_eqp, MN_eqp, MM_lt_tp, MM_lt_fp, MM_le_tp, MM_le_fp, MM_eq_tp, MM_eq_fp, N_cl, N_in_t, N_in_f, M_in, N_div, N_rem, N_nb0, N_nb1, cond_true, cond_false, Bool.not_true, Bool.not_false, Bool.and_true, Bool.true_and, Bool.and_false, Bool.false_and, decide_true, decide_false, Option.bind_some, Option.bind_none]
    rw [q_Evening_lay_L111_eq]
    refine Ok_some ⟨Fr_trans base (Fr_iu rfl), fun x => ?_, fun x => ?_, fun i => ?_, ?_⟩
    · rw [iu_nt (by decide)]; exact c32 x
    · rw [iu_nt (by decide)]; exact c33 x
    · rw [if_pos trivial]
      by_cases k : i = aho A p
      · rw [if_pos ⟨k, by decide⟩, k, iu_at]
      · rw [if_neg (fun z => k z.1), iu_ne k, iu_nt (by decide), iu_nt (by decide)]
    · rw [if_neg (by decide), iu_nt (by decide), iu_nt (by decide), iu_nt (by decide)]
  · subst t
    simp (disch := omega) only [L_0, L_1, L_2, L_3, L_4, L_5, L_6, L_7, L_8, L_9, L_10, L_11, L_12, L_13, L_14, L_15, L_16, L_17, L_18, L_19, L_20, L_21, L_22, L_23, L_24, L_25, L_26, L_27, L_28, L_29, L_30, L_31, L_32, L_33, L_34, L_35, L_40, L_41, L_42, L_43, L_44, L_45, L_47, L_48, L_50, L_53, L_57, L_59, L_60, L_61, L_63, L_64, L_97, L_100, L_101, L_102, L_103, L_122, L_130, L_216, L_255, L_364, L_400, L_402, L_420, L_728, L_768, L_999, L_1000, L_1093, L_1872, L_2000, L_9999, L_12345, L_252645135, L_858993459, L_1103515245, L_1431655765, Lm_1, Lm_2, Lm_8, N_zero, N_cast, N_add, N_mul, N_sub, N_addM, N_lt_tp, N_lt_fp, N_le_tp, N_le_fp, N_eq_tp, N_eq_fp, MN_ltp, MN_lep, NM_ltp, NM_lep, NM_eqp, MN_eqp, MM_lt_tp, MM_lt_fp, MM_le_tp, MM_le_fp, MM_eq_tp, MM_eq_fp, N_cl, N_in_t, N_in_f, M_in, N_div, N_rem, N_nb0, N_nb1, cond_true, cond_false, Bool.not_true, Bool.not_false, Bool.and_true, Bool.true_and, Bool.and_false, Bool.false_and, decide_true, decide_false, Option.bind_some, Option.bind_none]
    rw [q_Evening_lay_L79_eq, q_Evening_lay_L111_eq]
    refine Ok_some ⟨Fr_trans base (Fr_iu rfl), fun x => ?_, fun x => ?_, fun i => ?_, ?_⟩
    · rw [iu_nt (by decide)]; exact c32 x
    · rw [iu_nt (by decide)]; exact c33 x
    · rw [if_neg (fun z => z.2 rfl), iu_nt (by decide), iu_nt (by decide), iu_nt (by decide)]
    · rw [if_pos trivial, iu_at]
end
