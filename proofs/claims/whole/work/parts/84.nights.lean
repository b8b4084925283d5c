/-! nights. -/
def acc (x : Int32) (g : Nat → Nat) : Nat → Int32
  | 0 => x
  | k + 1 => acc x g k + nN (g k)
def RX (h h' : wb_H) (A : wa) (f o v w : Nat) : Prop := Fr [17, 54] h h' ∧ h'.1 17 0 1 = nN (v + 1) ∧ h'.1 17 0 2 = h.1 17 0 2 ∧ h'.1 17 0 3 = h.1 17 0 3 + nN (sm (an A) (feP A f o w)) ∧ h'.1 17 0 4 = h.1 17 0 4 + nN (wrW A 0 w) ∧ h'.1 17 0 5 = nN (tb w 0) ∧ h'.1 17 0 6 = nN (wrW A 0 w) ∧ h'.1 17 0 7 = nN (sm (an A) (feP A f o w)) ∧ (∀ k, k < 12 → h'.1 54 0 k = h.1 54 0 k) ∧ (∀ i, i < an A → h'.1 54 0 (12 + i) = nN (fin A 0 w (apl A i)) ∧ h'.1 54 0 (18 + i) = nN (sg w i) ∧ h'.1 54 0 (24 + i) = h.1 54 0 (24 + i) + nN (wrB A 0 w (apl A i))) ∧ (∀ o', o' ≠ 0 → ∀ k, h'.1 17 o' k = h.1 17 o' k ∧ h'.1 54 o' k = h.1 54 o' k)
section
variable {sc : wb_X} {B : Nat}
theorem X_record {h : wb_H} {A : wa} {q f o v w : Nat} (hA : wa_ok A) (hX : XA h q A) (h1 : h.1 17 0 1 = nN v) (h13 : h.1 11 0 13 = nN (tb w 0)) (h16 : h.1 11 0 16 = nN (wrW A 0 w)) (h17 : h.1 11 0 17 = nN (sm (an A) (feP A f o w))) (cells : ∀ i, i < an A → h.1 37 0 i = nN (fin A 0 w (apl A i)) ∧ h.1 38 0 i = nN (sg w i)) : Ok (q_Standing_record sc h 0) (fun h' => RX h h' A f o v w) := by
  have n6 := hA.1
  have g44 : decide (0 < 44) = true := rfl
  have tb0 := tb_lt w 0
  have key : ∀ k j, j + k = an A → ∀ h', Fr [54] h h' → (∀ k, k < 12 → h'.1 54 0 k = h.1 54 0 k) → (∀ i, i < j → h'.1 54 0 (12 + i) = nN (fin A 0 w (apl A i)) ∧ h'.1 54 0 (18 + i) = nN (sg w i) ∧ h'.1 54 0 (24 + i) = h.1 54 0 (24 + i) + nN (wrB A 0 w (apl A i))) → (∀ i, j ≤ i → i < 6 → h'.1 54 0 (24 + i) = h.1 54 0 (24 + i)) → (∀ o', o' ≠ 0 → ∀ k, h'.1 54 o' k = h.1 54 o' k) → Ok (q_Standing_record_L2 sc h' 0 (nN j)) (fun h' => RX h h' A f o v w) := by
    intro k
    induction k with
    | zero =>
      intro j hj h' F c12 new old oth
      rw [Nat.add_zero] at hj
      subst hj
      have a3 := (XA_fr F rfl hX).2.2.1
      have e1 : h'.1 17 0 1 = nN v := (Fr_i F (by rfl)).trans h1
      have e13 : h'.1 11 0 13 = nN (tb w 0) := (Fr_i F (by rfl)).trans h13
      have e16 : h'.1 11 0 16 = nN (wrW A 0 w) := (Fr_i F (by rfl)).trans h16
      have e17 : h'.1 11 0 17 = nN (sm (an A) (feP A f o w)) := (Fr_i F (by rfl)).trans h17
      rw [q_Standing_record_L2_eq]
      simp (disch := omega) only [L_0, L_1, L_2, L_3, L_4, L_5, L_6, L_7, L_8, L_9, L_10, L_11, L_12, L_13, L_14, L_15, L_16, L_17, L_18, L_19, L_20, L_21, L_22, L_23, L_24, L_25, L_26, L_27, L_28, L_29, L_30, L_31, L_32, L_33, L_34, L_35, L_40, L_41, L_42, L_43, L_44, L_45, L_47, L_48, L_50, L_53, L_57, L_59, L_60, L_61, L_63, L_64, L_97, L_100, L_101, L_102, L_103, L_122, L_130, L_216, L_255, L_364, L_400, L_402, L_420, L_728, L_768, L_999, L_1000, L_1093, L_1872, L_2000, L_9999, L_12345, L_252645135, L_858993459, L_1103515245, L_1431655765, Lm_1, Lm_2, Lm_8, N_zero, N_cast, N_add, N_mul, N_sub, N_addM, N_lt_tp, N_lt_fp, N_le_tp, N_le_fp, N_eq_tp, N_eq_fp, MN_ltp, MN_lep, NM_ltp, NM_lep, NM_eqp, MN_eqp, MM_lt_tp, MM_lt_fp, MM_le_tp, MM_le_fp, MM_eq_tp, MM_eq_fp, N_cl, N_in_t, N_in_f, M_in, N_div, N_rem, N_nb0, N_nb1, cond_true, cond_false, Bool.not_true, Bool.not_false, Bool.and_true, Bool.true_and, Bool.and_false, Bool.false_and, decide_true, decide_false, Option.bind_some, Option.bind_none, a3, g44, e1, iu_nt (show 11 ≠ 17 by decide), e13, N_nb (show tb w 0 ≤ 1 by omega), e16, e17]
      rw [q_Standing_record_L96_eq]
      simp (disch := omega) only [cond_true, cond_false, Bool.not_true, Bool.not_false, Bool.and_true, Bool.true_and, Bool.and_false, Bool.false_and, decide_true, decide_false, Option.bind_some, Option.bind_none, g44, iu_at, iu_ne (show 4 ≠ 7 by decide), iu_ne (show 4 ≠ 6 by decide), iu_ne (show 4 ≠ 5 by decide), iu_ne (show 4 ≠ 1 by decide), iu_ne (show 6 ≠ 7 by decide), iu_ne (show 3 ≠ 4 by decide), iu_ne (show 3 ≠ 7 by decide), iu_ne (show 3 ≠ 6 by decide), iu_ne (show 3 ≠ 5 by decide), iu_ne (show 3 ≠ 1 by decide), iu_ne (show 7 ≠ 4 by decide)]
      have x3 : h'.1 17 0 3 = h.1 17 0 3 := Fr_i F (by rfl)
      have x4 : h'.1 17 0 4 = h.1 17 0 4 := Fr_i F (by rfl)
      have x2 : h'.1 17 0 2 = h.1 17 0 2 := Fr_i F (by rfl)
      have FF : Fr [17] h' (wb_iu (wb_iu (wb_iu (wb_iu (wb_iu (wb_iu h' 17 0 1 (nN (v + 1))) 17 0 5 (nN (tb w 0))) 17 0 6 (nN (wrW A 0 w))) 17 0 7 (nN (sm (an A) (feP A f o w)))) 17 0 4 (h'.1 17 0 4 + nN (wrW A 0 w))) 17 0 3 (h'.1 17 0 3 + nN (sm (an A) (feP A f o w)))) := Fr_trans (Fr_trans (Fr_trans (Fr_trans (Fr_trans (Fr_iu rfl) (Fr_iu rfl)) (Fr_iu rfl)) (Fr_iu rfl)) (Fr_iu rfl)) (Fr_iu rfl)
      refine Ok_some ⟨Fr_trans (Fr_mono F rfl) (Fr_mono FF rfl), ?_, ?_, ?_, ?_, ?_, ?_, ?_, fun k hk => (Fr_i FF (by rfl)).trans (c12 k hk), fun i hi => ?_, fun o' ho' k => ⟨?_, (Fr_i FF (by rfl)).trans (oth o' ho' k)⟩⟩
      · rw [iu_ne (by decide), iu_ne (by decide), iu_ne (by decide), iu_ne (by decide), iu_ne (by decide), iu_at]
      · rw [iu_ne (by decide), iu_ne (by decide), iu_ne (by decide), iu_ne (by decide), iu_ne (by decide), iu_ne (by decide)]; exact x2
      · rw [iu_at, x3]
      · rw [iu_ne (by decide), iu_at, x4]
      · rw [iu_ne (by decide), iu_ne (by decide), iu_ne (by decide), iu_ne (by decide), iu_at]
      · rw [iu_ne (by decide), iu_ne (by decide), iu_ne (by decide), iu_at]
      · rw [iu_ne (by decide), iu_ne (by decide), iu_at]
      · rw [Fr_i FF (t := 54) (by rfl), Fr_i FF (t := 54) (by rfl), Fr_i FF (t := 54) (by rfl)]
        exact new i hi
      · rw [iu_o ho', iu_o ho', iu_o ho', iu_o ho', iu_o ho', iu_o ho']
        exact Fr_i F (by rfl)
    | succ k ih =>
      intro j hj h' F c12 new old oth
      have a3 := (XA_fr F rfl hX).2.2.1
      have c37 : h'.1 37 0 j = nN (fin A 0 w (apl A j)) := (Fr_i F (by rfl)).trans (cells j (by omega)).1
      have c38 : h'.1 38 0 j = nN (sg w j) := (Fr_i F (by rfl)).trans (cells j (by omega)).2
      have fl := fin_le A 0 w (apl A j)
      rw [q_Standing_record_L2_eq]
      simp (disch := omega) only [L_0, L_1, L_2, L_3, L_4, L_5, L_6, L_7, L_8, L_9, L_10, L_11, L_12, L_13, L_14, L_15, L_16, L_17, L_18, L_19, L_20, L_21, L_22, L_23, L_24, L_25, L_26, L_27, L_28, L_29, L_30, L_31, L_32, L_33, L_34, L_35, L_40, L_41, L_42, L_43, L_44, L_45, L_47, L_48, L_50, L_53, L_57, L_59, L_60, L_61, L_63, L_64, L_97, L_100, L_101, L_102, L_103, L_122, L_130, L_216, L_255, L_364, L_400, L_402, L_420, L_728, L_768, L_999, L_1000, L_1093, L_1872, L_2000, L_9999, L_12345, L_252645135, L_858993459, L_1103515245, L_1431655765, Lm_1, Lm_2, Lm_8, N_zero, N_cast, N_add, N_mul, N_sub, N_addM, N_lt_tp, N_lt_fp, N_le_tp, N_le_fp, N_eq_tp, N_eq_fp, MN_ltp, MN_lep, NM_ltp, NM_lep, NM_eqp, MN_eqp, MM_lt_tp, MM_lt_fp, MM_le_tp, MM_le_fp, MM_eq_tp, MM_eq_fp, N_cl, N_in_t, N_in_f, M_in, N_div, N_rem, N_nb0, N_nb1, cond_true, cond_false, Bool.not_true, Bool.not_false, Bool.and_true, Bool.true_and, Bool.and_false, Bool.false_and, decide_true, decide_false, Option.bind_some, Option.bind_none, a3, g44, c37, X_stSet, iu_nt (show 38 ≠ 54 by decide), c38]
      have F1 : Fr [54] h' (wb_iu (wb_iu h' 54 0 (12 + j) (nN (fin A 0 w (apl A j)))) 54 0 (18 + j) (nN (sg w j))) := Fr_trans (Fr_iu rfl) (Fr_iu rfl)
      have p12 : (wb_iu (wb_iu h' 54 0 (12 + j) (nN (fin A 0 w (apl A j)))) 54 0 (18 + j) (nN (sg w j))).1 54 0 (12 + j) = nN (fin A 0 w (apl A j)) := by rw [iu_ne (by omega), iu_at]
      have p18 : (wb_iu (wb_iu h' 54 0 (12 + j) (nN (fin A 0 w (apl A j)))) 54 0 (18 + j) (nN (sg w j))).1 54 0 (18 + j) = nN (sg w j) := iu_at
      have pel : ∀ k, k ≠ 12 + j → k ≠ 18 + j → (wb_iu (wb_iu h' 54 0 (12 + j) (nN (fin A 0 w (apl A j)))) 54 0 (18 + j) (nN (sg w j))).1 54 0 k = h'.1 54 0 k := fun k h1 h2 => by rw [iu_ne h2, iu_ne h1]
      have pot : ∀ o', o' ≠ 0 → ∀ k, (wb_iu (wb_iu h' 54 0 (12 + j) (nN (fin A 0 w (apl A j)))) 54 0 (18 + j) (nN (sg w j))).1 54 o' k = h'.1 54 o' k := fun o' ho' k => by rw [iu_o ho', iu_o ho']
      generalize wb_iu (wb_iu h' 54 0 (12 + j) (nN (fin A 0 w (apl A j)))) 54 0 (18 + j) (nN (sg w j)) = k2 at *
      have FF := Fr_trans F F1
      have s13 : k2.1 11 0 13 = nN (tb w 0) := (Fr_i FF (by rfl)).trans h13
      have s37 : k2.1 37 0 j = nN (fin A 0 w (apl A j)) := (Fr_i FF (by rfl)).trans (cells j (by omega)).1
      have iw := X_isWrong (sc := sc) (show j < 6 by omega) tb0 fl s13 s37
      have o24 := old j (Nat.le_refl _) (by omega)
      have wb : wrB A 0 w (apl A j) = if fin A 0 w (apl A j) < 2 ∧ fin A 0 w (apl A j) ≠ tb w 0 then 1 else 0 := rfl
      rw [← wb] at iw
      have wl := wrB_le A 0 w (apl A j)
      rw [iw]
      by_cases z : wrB A 0 w (apl A j) = 1
      · simp (disch := omega) only [L_0, L_1, L_2, L_3, L_4, L_5, L_6, L_7, L_8, L_9, L_10, L_11, L_12, L_13, L_14, L_15, L_16, L_17, L_18, L_19, L_20, L_21, L_22, L_23, L_24, L_25, L_26, L_27, L_28, L_29, L_30, L_31, L_32, L_33, L_34, L_35, L_40, L_41, L_42, L_43, L_44, L_45, L_47, L_48, L_50, L_53, L_57, L_59, L_60, L_61, L_63, L_64, L_97, L_100, L_101, L_102, L_103, L_122, L_130, L_216, L_255, L_364, L_400, L_402, L_420, L_728, L_768, L_999, L_1000, L_1093, L_1872, L_2000, L_9999, L_12345, L_252645135, L_858993459, L_1103515245, L_1431655765, Lm_1, Lm_2, Lm_8, N_zero, N_cast, N_add, N_mul, N_sub, N_addM, N_lt_tp, N_lt_fp, N_le_tp, N_le_fp, N_eq_tp, N_eq_fp, MN_ltp, MN_lep, NM_ltp, NM_lep, NM_eqp, MN_eqp, MM_lt_tp, MM_lt_fp, MM_le_tp, MM_le_fp, MM_eq_tp, MM_eq_fp, N_cl, N_in_t, N_in_f, M_in, N_div, N_rem, N_nb0, N_nb1, cond_true, cond_false, Bool.not_true, Bool.not_false, Bool.and_true, Bool.true_and, Bool.and_false, Bool.false_and, decide_true, decide_false, Option.bind_some, Option.bind_none, z, g44]
        rw [X_stOf (by decide) (by decide) (by omega), pel (6 * 4 + j) (by omega) (by omega)]
        simp (disch := omega) only [L_0, L_1, L_2, L_3, L_4, L_5, L_6, L_7, L_8, L_9, L_10, L_11, L_12, L_13, L_14, L_15, L_16, L_17, L_18, L_19, L_20, L_21, L_22, L_23, L_24, L_25, L_26, L_27, L_28, L_29, L_30, L_31, L_32, L_33, L_34, L_35, L_40, L_41, L_42, L_43, L_44, L_45, L_47, L_48, L_50, L_53, L_57, L_59, L_60, L_61, L_63, L_64, L_97, L_100, L_101, L_102, L_103, L_122, L_130, L_216, L_255, L_364, L_400, L_402, L_420, L_728, L_768, L_999, L_1000, L_1093, L_1872, L_2000, L_9999, L_12345, L_252645135, L_858993459, L_1103515245, L_1431655765, Lm_1, Lm_2, Lm_8, N_zero, N_cast, N_add, N_mul, N_sub, N_addM, N_lt_tp, N_lt_fp, N_le_tp, N_le_fp, N_eq_tp, N_eq_fp, MN_ltp, MN_lep, NM_ltp, NM_lep, NM_eqp, MN_eqp, MM_lt_tp, MM_lt_fp, MM_le_tp, MM_le_fp, MM_eq_tp, MM_eq_fp, N_cl, N_in_t, N_in_f, M_in, N_div, N_rem, N_nb0, N_nb1, cond_true, cond_false, Bool.not_true, Bool.not_false, Bool.and_true, Bool.true_and, Bool.and_false, Bool.false_and, decide_true, decide_false, Option.bind_some, Option.bind_none, X_stSet]
        refine ih (j + 1) (by omega) _ (Fr_trans FF (Fr_iu rfl)) (fun k hk => ?_) (fun i hi => ?_) (fun i hi hi6 => ?_) (fun o' ho' k => ?_)
        · rw [iu_ne (by omega), pel k (by omega) (by omega)]; exact c12 k hk
        · by_cases y : i = j
          · rw [y, iu_ne (by omega), iu_ne (by omega), iu_at, o24, z]
            exact ⟨p12, p18, rfl⟩
          · rw [iu_ne (by omega), iu_ne (by omega), iu_ne (by omega), pel _ (by omega) (by omega), pel _ (by omega) (by omega), pel _ (by omega) (by omega)]
            exact new i (by omega)
        · rw [iu_ne (by omega), pel _ (by omega) (by omega)]; exact old i (by omega) hi6
        · rw [iu_o ho', pot o' ho']; exact oth o' ho' k
      · have z0 : wrB A 0 w (apl A j) = 0 := by omega
        simp (disch := omega) only [L_0, L_1, L_2, L_3, L_4, L_5, L_6, L_7, L_8, L_9, L_10, L_11, L_12, L_13, L_14, L_15, L_16, L_17, L_18, L_19, L_20, L_21, L_22, L_23, L_24, L_25, L_26, L_27, L_28, L_29, L_30, L_31, L_32, L_33, L_34, L_35, L_40, L_41, L_42, L_43, L_44, L_45, L_47, L_48, L_50, L_53, L_57, L_59, L_60, L_61, L_63, L_64, L_97, L_100, L_101, L_102, L_103, L_122, L_130, L_216, L_255, L_364, L_400, L_402, L_420, L_728, L_768, L_999, L_1000, L_1093, L_1872, L_2000, L_9999, L_12345, L_252645135, L_858993459, L_1103515245, L_1431655765, Lm_1, Lm_2, Lm_8, N_zero, N_cast, N_add, N_mul, N_sub, N_addM, N_lt_tp, N_lt_fp, N_le_tp, N_le_fp, N_eq_tp, N_eq_fp, MN_ltp, MN_lep, NM_ltp, NM_lep, NM_eqp, MN_eqp, MM_lt_tp, MM_lt_fp, MM_le_tp, MM_le_fp, MM_eq_tp, MM_eq_fp, N_cl, N_in_t, N_in_f, M_in, N_div, N_rem, N_nb0, N_nb1, cond_true, cond_false, Bool.not_true, Bool.not_false, Bool.and_true, Bool.true_and, Bool.and_false, Bool.false_and, decide_true, decide_false, Option.bind_some, Option.bind_none, z0]
        refine ih (j + 1) (by omega) _ FF (fun k hk => ?_) (fun i hi => ?_) (fun i hi hi6 => ?_) (fun o' ho' k => ?_)
        · rw [pel k (by omega) (by omega)]; exact c12 k hk
        · by_cases y : i = j
          · rw [y, z0, N_add0, pel (24 + j) (by omega) (by omega)]
            exact ⟨p12, p18, o24⟩
          · rw [pel _ (by omega) (by omega), pel _ (by omega) (by omega), pel _ (by omega) (by omega)]
            exact new i (by omega)
        · rw [pel _ (by omega) (by omega)]; exact old i (by omega) hi6
        · rw [pot o' ho']; exact oth o' ho' k
  rw [q_Standing_record_eq]
  exact key (an A) 0 (Nat.zero_add _) h (Fr_refl _ _) (fun _ _ => rfl) (fun i hi => absurd hi (Nat.not_lt_zero _)) (fun _ _ _ => rfl) (fun _ _ _ => rfl)
end
