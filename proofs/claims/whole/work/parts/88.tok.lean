/-! Tokens: adding one; numerals. -/
theorem run_spec {g b : Nat → Nat} {t : Nat} (hb : g (b t) ≠ 1) : ∀ k i, i + k = t → (∀ j, j < run g b k i → g (b (i + j)) = 1) ∧ g (b (i + run g b k i)) ≠ 1 ∧ run g b k i ≤ k
  | 0, i, h => by
    have e : i = t := by omega
    refine ⟨fun j hj => absurd hj (Nat.not_lt_zero _), ?_, Nat.le_refl _⟩
    show g (b (i + 0)) ≠ 1
    rw [Nat.add_zero, e]
    exact hb
  | k + 1, i, h => by
    rw [run]
    by_cases z : g (b i) = 1
    · rw [if_pos z]
      obtain ⟨h1, h2, h3⟩ := run_spec hb k (i + 1) (by omega)
      refine ⟨fun j hj => ?_, ?_, by omega⟩
      · by_cases e : j = 0
        · rw [e, Nat.add_zero]; exact z
        · have := h1 (j - 1) (by omega)
          rw [show i + 1 + (j - 1) = i + j by omega] at this
          exact this
      · rw [show i + (run g b k (i + 1) + 1) = i + 1 + run g b k (i + 1) by omega]
        exact h2
    · rw [if_neg z]
      refine ⟨fun j hj => absurd hj (Nat.not_lt_zero _), ?_, Nat.zero_le _⟩
      rw [Nat.add_zero]
      exact z
theorem txt_end (f : Nat → Int32) (t : Nat) : txt f t t = 0 := by unfold txt; rw [if_neg (Nat.lt_irrefl _)]
theorem isD_le (b : Nat) : isD b ≤ 1 := by unfold isD; split <;> omega
theorem isL_le (b : Nat) : isL b ≤ 1 := by unfold isL; split <;> omega
/-- the numeral's value -/
def nvz (b : Nat → Nat) (i : Nat) : Nat → Int
  | 0 => 0
  | j + 1 => 10 * nvz b i j + (b (i + j) : Int) - 48
def tkX (h h' : wb_H) (c : Nat) (kd pos : Int32) (v : Int64) : Prop := Fr [57, 58, 59, 6004] h h' ∧ h'.1 19 0 4 = nN (c + 1) ∧ h'.1 57 0 c = kd ∧ h'.1 58 0 c = pos ∧ h'.2.1 59 0 c = v ∧ ∀ j, j ≠ c → h'.1 57 0 j = h.1 57 0 j ∧ h'.1 58 0 j = h.1 58 0 j ∧ h'.2.1 59 0 j = h.2.1 59 0 j
def tkM (h h' : wb_H) (c : Nat) (kd pos iv : Int32) (v : Int64) : Prop := Fr [67, 68, 69, 70, 1010] h h' ∧ h'.1 21 0 10 = nN (c + 1) ∧ h'.1 67 0 c = kd ∧ h'.1 68 0 c = pos ∧ h'.1 69 0 c = iv ∧ h'.2.1 70 0 c = v ∧ ∀ j, j ≠ c → h'.1 67 0 j = h.1 67 0 j ∧ h'.1 68 0 j = h.1 68 0 j ∧ h'.1 69 0 j = h.1 69 0 j ∧ h'.2.1 70 0 j = h.2.1 70 0 j
theorem lu_at {h : wb_H} {t o k : Nat} {v : Int64} : (wb_lu h t o k v).2.1 t o k = v := by rw [wb_lu_2, if_pos ⟨rfl, rfl, rfl⟩]
theorem lu_ne {h : wb_H} {t o k k' : Nat} {v : Int64} (e : k' ≠ k) : (wb_lu h t o k v).2.1 t o k' = h.2.1 t o k' := by rw [wb_lu_2, if_neg (fun y => e y.2.2)]
section
variable {sc : wb_X}
theorem X_add {h : wb_H} {c : Nat} (hc : c ≤ 401) (h4 : h.1 19 0 4 = nN c) (kd pos : Int32) (v : Int64) : Ok (q_Tokens_add sc h kd pos v) (fun h' => tkX h h' c kd pos v) := by
  rw [q_Tokens_add_eq]
  simp (disch := omega) only [L_0, L_1, L_2, L_3, L_4, L_5, L_6, L_7, L_8, L_9, L_10, L_11, L_12, L_13, L_14, L_15, L_16, L_17, L_18, L_19, L_20, L_21, L_22, L_23, L_24, L_25, L_26, L_27, L_28, L_29, L_30, L_31, L_32, L_33, L_34, L_35, L_40, L_41, L_42, L_43, L_44, L_45, L_47, L_48, L_50, L_53, L_57, L_59, L_60, L_61, L_63, L_64, L_97, L_100, L_101, L_102, L_103, L_122, L_130, L_216, L_255, L_364, L_400, L_402, L_420, L_728, L_768, L_999, L_1000, L_1093, L_1872, L_2000, L_9999, L_12345, L_252645135, L_858993459, L_1103515245, L_1431655765, Lm_1, Lm_2, Lm_8, N_zero, N_cast, N_add, N_mul, N_sub, N_addM, N_lt_tp, N_lt_fp, N_le_tp, N_le_fp, N_eq_tp, N_eq_fp, MN_ltp, MN_lep, NM_ltp, NM_lep, NM_eqp, MN_eqp, MM_lt_tp, MM_lt_fp, MM_le_tp, MM_le_fp, MM_eq_tp, MM_eq_fp, N_cl, N_in_t, N_in_f, M_in, N_div, N_rem, N_nb0, N_nb1, cond_true, cond_false, Bool.not_true, Bool.not_false, Bool.and_true, Bool.true_and, Bool.and_false, Bool.false_and, decide_true, decide_false, Option.bind_some, Option.bind_none, h4, iu_nt (show 19 ≠ 57 by decide), iu_nt (show 19 ≠ 58 by decide)]
  rw [q_Tokens_add_L42_eq]
  simp (disch := omega) only [L_0, L_1, L_2, L_3, L_4, L_5, L_6, L_7, L_8, L_9, L_10, L_11, L_12, L_13, L_14, L_15, L_16, L_17, L_18, L_19, L_20, L_21, L_22, L_23, L_24, L_25, L_26, L_27, L_28, L_29, L_30, L_31, L_32, L_33, L_34, L_35, L_40, L_41, L_42, L_43, L_44, L_45, L_47, L_48, L_50, L_53, L_57, L_59, L_60, L_61, L_63, L_64, L_97, L_100, L_101, L_102, L_103, L_122, L_130, L_216, L_255, L_364, L_400, L_402, L_420, L_728, L_768, L_999, L_1000, L_1093, L_1872, L_2000, L_9999, L_12345, L_252645135, L_858993459, L_1103515245, L_1431655765, Lm_1, Lm_2, Lm_8, N_zero, N_cast, N_add, N_mul, N_sub, N_addM, N_lt_tp, N_lt_fp, N_le_tp, N_le_fp, N_eq_tp, N_eq_fp, MN_ltp, MN_lep, NM_ltp, NM_lep, NM_eqp, MN_eqp, MM_lt_tp, MM_lt_fp, MM_le_tp, MM_le_fp, MM_eq_tp, MM_eq_fp, N_cl, N_in_t, N_in_f, M_in, N_div, N_rem, N_nb0, N_nb1, wb_lu_1, h4, iu_nt (show 19 ≠ 57 by decide), iu_nt (show 19 ≠ 58 by decide)]
  refine Ok_some ⟨Fr_trans (Fr_trans (Fr_trans (Fr_iu rfl) (Fr_iu rfl)) (Fr_lu rfl)) (Fr_iu rfl), iu_at, ?_, ?_, ?_, fun j hj => ⟨?_, ?_, ?_⟩⟩
  · rw [iu_nt (by decide), wb_lu_1, iu_nt (by decide), iu_at]
  · rw [iu_nt (by decide), wb_lu_1, iu_at]
  · rw [wb_iu_2, lu_at]
  · rw [iu_nt (by decide), wb_lu_1, iu_nt (by decide), iu_ne hj]
  · rw [iu_nt (by decide), wb_lu_1, iu_ne hj, iu_nt (by decide)]
  · rw [wb_iu_2, lu_ne hj, wb_iu_2, wb_iu_2]
theorem M_token {h : wb_H} {c : Nat} (hc : c ≤ 402) (h10 : h.1 21 0 10 = nN c) (kd pos iv : Int32) (v : Int64) : Ok (q_M_token sc h kd pos iv v) (fun h' => tkM h h' c kd pos iv v) := by
  rw [q_M_token_eq]
  simp (disch := omega) only [L_0, L_1, L_2, L_3, L_4, L_5, L_6, L_7, L_8, L_9, L_10, L_11, L_12, L_13, L_14, L_15, L_16, L_17, L_18, L_19, L_20, L_21, L_22, L_23, L_24, L_25, L_26, L_27, L_28, L_29, L_30, L_31, L_32, L_33, L_34, L_35, L_40, L_41, L_42, L_43, L_44, L_45, L_47, L_48, L_50, L_53, L_57, L_59, L_60, L_61, L_63, L_64, L_97, L_100, L_101, L_102, L_103, L_122, L_130, L_216, L_255, L_364, L_400, L_402, L_420, L_728, L_768, L_999, L_1000, L_1093, L_1872, L_2000, L_9999, L_12345, L_252645135, L_858993459, L_1103515245, L_1431655765, Lm_1, Lm_2, Lm_8, N_zero, N_cast, N_add, N_mul, N_sub, N_addM, N_lt_tp, N_lt_fp, N_le_tp, N_le_fp, N_eq_tp, N_eq_fp, MN_ltp, MN_lep, NM_ltp, NM_lep, NM_eqp, MN_eqp, MM_lt_tp, MM_lt_fp, MM_le_tp, MM_le_fp, MM_eq_tp, MM_eq_fp, N_cl, N_in_t, N_in_f, M_in, N_div, N_rem, N_nb0, N_nb1, cond_true, cond_false, Bool.not_true, Bool.not_false, Bool.and_true, Bool.true_and, Bool.and_false, Bool.false_and, decide_true, decide_false, Option.bind_some, Option.bind_none, h10, iu_nt (show 21 ≠ 67 by decide), iu_nt (show 21 ≠ 68 by decide)]
  rw [q_M_token_L30_eq]
  simp (disch := omega) only [L_0, L_1, L_2, L_3, L_4, L_5, L_6, L_7, L_8, L_9, L_10, L_11, L_12, L_13, L_14, L_15, L_16, L_17, L_18, L_19, L_20, L_21, L_22, L_23, L_24, L_25, L_26, L_27, L_28, L_29, L_30, L_31, L_32, L_33, L_34, L_35, L_40, L_41, L_42, L_43, L_44, L_45, L_47, L_48, L_50, L_53, L_57, L_59, L_60, L_61, L_63, L_64, L_97, L_100, L_101, L_102, L_103, L_122, L_130, L_216, L_255, L_364, L_400, L_402, L_420, L_728, L_768, L_999, L_1000, L_1093, L_1872, L_2000, L_9999, L_12345, L_252645135, L_858993459, L_1103515245, L_1431655765, Lm_1, Lm_2, Lm_8, N_zero, N_cast, N_add, N_mul, N_sub, N_addM, N_lt_tp, N_lt_fp, N_le_tp, N_le_fp, N_eq_tp, N_eq_fp, MN_ltp, MN_lep, NM_ltp, NM_lep, NM_eqp, MN_eqp, MM_lt_tp, MM_lt_fp, MM_le_tp, MM_le_fp, MM_eq_tp, MM_eq_fp, N_cl, N_in_t, N_in_f, M_in, N_div, N_rem, N_nb0, N_nb1, cond_true, cond_false, Bool.not_true, Bool.not_false, Bool.and_true, Bool.true_and, Bool.and_false, Bool.false_and, decide_true, decide_false, Option.bind_some, Option.bind_none, wb_lu_1, h10, iu_nt (show 21 ≠ 67 by decide), iu_nt (show 21 ≠ 68 by decide), iu_nt (show 21 ≠ 69 by decide)]
  refine Ok_some ⟨Fr_trans (Fr_trans (Fr_trans (Fr_trans (Fr_iu rfl) (Fr_iu rfl)) (Fr_iu rfl)) (Fr_lu rfl)) (Fr_iu rfl), iu_at, ?_, ?_, ?_, ?_, fun j hj => ⟨?_, ?_, ?_, ?_⟩⟩
  · rw [iu_nt (by decide), wb_lu_1, iu_nt (by decide), iu_nt (by decide), iu_at]
  · rw [iu_nt (by decide), wb_lu_1, iu_nt (by decide), iu_at]
  · rw [iu_nt (by decide), wb_lu_1, iu_at]
  · rw [wb_iu_2, lu_at]
  · rw [iu_nt (by decide), wb_lu_1, iu_nt (by decide), iu_nt (by decide), iu_ne hj]
  · rw [iu_nt (by decide), wb_lu_1, iu_nt (by decide), iu_ne hj, iu_nt (by decide)]
  · rw [iu_nt (by decide), wb_lu_1, iu_ne hj, iu_nt (by decide), iu_nt (by decide)]
  · rw [wb_iu_2, lu_ne hj, wb_iu_2, wb_iu_2, wb_iu_2]
theorem X_noTok {h : wb_H} {c t : Nat} (hc : c ≤ 401) (h4 : h.1 19 0 4 = nN c) (h1 : h.1 18 0 1 = nN t) (pos : Int32) : Ok (q_Tokens_cutNoToken sc h pos) (fun r => r.1 = nN t ∧ tkX h r.2 c (nN 102) pos (Int64.ofNat 0)) := by
  rw [q_Tokens_cutNoToken_eq]
  simp only [L_0, L_1, L_2, L_3, L_4, L_5, L_6, L_7, L_8, L_9, L_10, L_11, L_12, L_13, L_14, L_15, L_16, L_17, L_18, L_19, L_20, L_21, L_22, L_23, L_24, L_25, L_26, L_27, L_28, L_29, L_30, L_31, L_32, L_33, L_34, L_35, L_40, L_41, L_42, L_43, L_44, L_45, L_47, L_48, L_50, L_53, L_57, L_59, L_60, L_61, L_63, L_64, L_97, L_100, L_101, L_102, L_103, L_122, L_130, L_216, L_255, L_364, L_400, L_402, L_420, L_728, L_768, L_999, L_1000, L_1093, L_1872, L_2000, L_9999, L_12345, L_252645135, L_858993459, L_1103515245, L_1431655765, Lm_1, Lm_2, Lm_8]
  refine Ok_bind (X_add hc h4 (nN 102) pos (Int64.ofNat 0)) ?_
  intro h' H
  exact Ok_some ⟨(Fr_i H.1 (by rfl)).trans h1, H⟩
theorem X_cutInt {h : wb_H} {c t i : Nat} (hc : c ≤ 401) (h4 : h.1 19 0 4 = nN c) (ht : t ≤ 2000) (h1 : h.1 18 0 1 = nN t) (hi : i < t) : Ok (q_Tokens_cutInt sc h (nN i)) (fun r => (run isD (txt (h.1 55 0) t) (t - i) i ≤ 4 → r.1 = nN (i + run isD (txt (h.1 55 0) t) (t - i) i) ∧ tkX h r.2 c (nN 101) (nN i) (Int64.ofInt (nvz (txt (h.1 55 0) t) i (run isD (txt (h.1 55 0) t) (t - i) i)))) ∧ (¬ run isD (txt (h.1 55 0) t) (t - i) i ≤ 4 → r.1 = nN t ∧ tkX h r.2 c (nN 102) (nN i) (Int64.ofNat 0))) := by
  have hz : isD (txt (h.1 55 0) t t) ≠ 1 := by rw [txt_end]; decide
  obtain ⟨r1, r2, r3⟩ := run_spec (g := isD) (b := txt (h.1 55 0) t) hz (t - i) i (by omega)
  generalize run isD (txt (h.1 55 0) t) (t - i) i = K at *
  have key : ∀ r j, j + r = K → Ok (q_Tokens_cutInt_L5 sc h (nN i) (nN (i + j)) (Int64.ofInt (nvz (txt (h.1 55 0) t) i j))) (fun r => (K ≤ 4 → r.1 = nN (i + K) ∧ tkX h r.2 c (nN 101) (nN i) (Int64.ofInt (nvz (txt (h.1 55 0) t) i K))) ∧ (¬ K ≤ 4 → r.1 = nN t ∧ tkX h r.2 c (nN 102) (nN i) (Int64.ofNat 0))) := by
    intro r
    induction r with
    | zero =>
      intro j hj
      rw [Nat.add_zero] at hj
      subst hj
      rw [q_Tokens_cutInt_L5_eq]
      have fin : ∀ (x : Option (Int32 × wb_H)), x = (bif decide (nN (i + j) - nN i ≤ nN 4) then ((q_Tokens_add sc h (nN 101) (nN i) (Int64.ofInt (nvz (txt (h.1 55 0) t) i j))).bind fun h1 => some (nN (i + j), h1)) else ((q_Tokens_cutNoToken sc h (nN i)).bind fun r2 => some (r2.1, r2.2))) → Ok x (fun r => (j ≤ 4 → r.1 = nN (i + j) ∧ tkX h r.2 c (nN 101) (nN i) (Int64.ofInt (nvz (txt (h.1 55 0) t) i j))) ∧ (¬ j ≤ 4 → r.1 = nN t ∧ tkX h r.2 c (nN 102) (nN i) (Int64.ofNat 0))) := by
        intro x hx
        subst hx
        rw [N_sub (by omega), Nat.add_sub_cancel_left]
        by_cases z : j ≤ 4
        · rw [N_le_t z (by decide)]
          refine Ok_bind (X_add hc h4 _ _ _) ?_
          intro h' H
          exact Ok_some ⟨fun _ => ⟨rfl, H⟩, fun y => absurd z y⟩
        · rw [N_le_f (by omega) (by omega)]
          refine Ok_bind (X_noTok hc h4 h1 _) ?_
          intro r H
          exact Ok_some ⟨fun y => absurd y z, fun _ => H⟩
      by_cases z : t ≤ i + j
      · simp (disch := omega) only [L_0, L_1, L_2, L_3, L_4, L_5, L_6, L_7, L_8, L_9, L_10, L_11, L_12, L_13, L_14, L_15, L_16, L_17, L_18, L_19, L_20, L_21, L_22, L_23, L_24, L_25, L_26, L_27, L_28, L_29, L_30, L_31, L_32, L_33, L_34, L_35, L_40, L_41, L_42, L_43, L_44, L_45, L_47, L_48, L_50, L_53, L_57, L_59, L_60, L_61, L_63, L_64, L_97, L_100, L_101, L_102, L_103, L_122, L_130, L_216, L_255, L_364, L_400, L_402, L_420, L_728, L_768, L_999, L_1000, L_1093, L_1872, L_2000, L_9999, L_12345, L_252645135, L_858993459, L_1103515245, L_1431655765, Lm_1, Lm_2, Lm_8, N_le_tp, cond_true, cond_false, Bool.not_true, Bool.not_false, Bool.and_true, Bool.true_and, Bool.and_false, Bool.false_and, decide_true, decide_false, Option.bind_some, Option.bind_none, h1]
        exact fin _ rfl
      · have d0 : isD (txt (h.1 55 0) t (i + j)) = 0 := by have := isD_le (txt (h.1 55 0) t (i + j)); omega
        simp (disch := omega) only [L_0, L_1, L_2, L_3, L_4, L_5, L_6, L_7, L_8, L_9, L_10, L_11, L_12, L_13, L_14, L_15, L_16, L_17, L_18, L_19, L_20, L_21, L_22, L_23, L_24, L_25, L_26, L_27, L_28, L_29, L_30, L_31, L_32, L_33, L_34, L_35, L_40, L_41, L_42, L_43, L_44, L_45, L_47, L_48, L_50, L_53, L_57, L_59, L_60, L_61, L_63, L_64, L_97, L_100, L_101, L_102, L_103, L_122, L_130, L_216, L_255, L_364, L_400, L_402, L_420, L_728, L_768, L_999, L_1000, L_1093, L_1872, L_2000, L_9999, L_12345, L_252645135, L_858993459, L_1103515245, L_1431655765, Lm_1, Lm_2, Lm_8, N_le_fp, N_eq_tp, cond_true, cond_false, Bool.not_true, Bool.not_false, Bool.and_true, Bool.true_and, Bool.and_false, Bool.false_and, decide_true, decide_false, Option.bind_some, Option.bind_none, h1, X_at ht h1, X_isD (txt_le _ _ _), d0]
        exact fin _ rfl
    | succ r ih =>
      intro j hj
      have dj := r1 j (by omega)
      have ih2 := ih (j + 1) (by omega)
      have bl := txt_le (h.1 55 0) t (i + j)
      have e : (Int64.ofNat 10 * Int64.ofInt (nvz (txt (h.1 55 0) t) i j) + (nN (txt (h.1 55 0) t (i + j))).toInt64) - Int64.ofNat 48 = Int64.ofInt (nvz (txt (h.1 55 0) t) i (j + 1)) := by
        rw [nN_long (by omega), nvz, Int64.ofInt_sub, Int64.ofInt_add, Int64.ofInt_mul]
        rfl
      rw [q_Tokens_cutInt_L5_eq]
      simp (disch := omega) only [L_0, L_1, L_2, L_3, L_4, L_5, L_6, L_7, L_8, L_9, L_10, L_11, L_12, L_13, L_14, L_15, L_16, L_17, L_18, L_19, L_20, L_21, L_22, L_23, L_24, L_25, L_26, L_27, L_28, L_29, L_30, L_31, L_32, L_33, L_34, L_35, L_40, L_41, L_42, L_43, L_44, L_45, L_47, L_48, L_50, L_53, L_57, L_59, L_60, L_61, L_63, L_64, L_97, L_100, L_101, L_102, L_103, L_122, L_130, L_216, L_255, L_364, L_400, L_402, L_420, L_728, L_768, L_999, L_1000, L_1093, L_1872, L_2000, L_9999, L_12345, L_252645135, L_858993459, L_1103515245, L_1431655765, Lm_1, Lm_2, Lm_8, N_le_fp, N_eq_fp, N_add, cond_true, cond_false, Bool.not_true, Bool.not_false, Bool.and_true, Bool.true_and, Bool.and_false, Bool.false_and, decide_true, decide_false, Option.bind_some, Option.bind_none, h1, X_at ht h1, X_isD (txt_le _ _ _), dj, e]
      exact ih2
  rw [q_Tokens_cutInt_eq]
  exact key K 0 (Nat.zero_add _)
end
