/-! Calls that ask: chance, mean, street, place, hour, bestHour, two. -/
theorem M_lineN {sc : wb_X} {h : wb_H} {x b g : Nat} (h2 : x ≤ 2147483647) (h3 : 0 < b) (h4 : b ≤ 2147483647) (hg : g ≤ 1) : q_M_lineOf sc h (nN x) (nN b) (nN g) = some (fr (x : Int) b g, h) := M_lineOf (by omega) (by omega) h3 h4 hg
theorem nM1_ne (x : Nat) : nM 1 = nM 1 := rfl
section
variable {sc : wb_X} {B : Nat}
theorem X_partN {h : wb_H} {T : wT} {R : wR} {v q s : Nat} (C : Core h T R v q s B) {x g : Nat} (h2 : x ≤ 2147483647) (hg : g ≤ 1) : q_X_partOfAll sc h ((nN x).toInt64) (nN g) = some (fr (x : Int) (10 ^ (tn T + 1)) g, h) := by
  rw [nN_long h2]
  exact X_partOfAll C (by omega) (by omega) hg
theorem CoreX {h h' : wb_H} {T : wT} {R : wR} {v q s : Nat} (C : Core h T R v q s B) (F : Fr XQQ h h') : Core h' T R v q s B := Core_fr F rfl rfl rfl rfl C
theorem CoreM {h h' : wb_H} {T : wT} {R : wR} {v q s : Nat} (C : Core h T R v q s B) (F : Fr MQQ h h') : Core h' T R v q s B := Core_fr F rfl rfl rfl rfl C
theorem c_chance {h : wb_H} (I : Inv h B) (a : Int32) {g : Nat} (hg : g ≤ 1) : Same (fun h => q_X_chance sc h a (nN g)) (fun h => q_M_chance sc h a (nN g)) h B := by
  obtain ⟨T, R, v, q, s, C, D⟩ := I
  have hA := mkA_ok C.1 C.2.1
  have n6 := C.1.1
  have p1 := p10_le T C.1
  have p2 := p10_pos (tn T + 1)
  by_cases ha : hsP (tn T) a
  · obtain ⟨i, hi, rfl⟩ := ha
    have hw := wrP_10 hA 0 (rpl R i)
    refine query (a := fr (wrP (mkA T R) 0 (rpl R i) : Nat) (10 ^ (tn T + 1)) g) C ?_ ?_
    · show Ok (q_X_chance sc h (nN i) (nN g)) _
      rw [q_X_chance_eq, X_isHouse_t C hi]
      simp (disch := omega) only [L_0, L_1, L_2, L_3, L_4, L_5, L_6, L_7, L_8, L_9, L_10, L_11, L_12, L_13, L_14, L_15, L_16, L_17, L_18, L_19, L_20, L_21, L_22, L_23, L_24, L_25, L_26, L_27, L_28, L_29, L_30, L_31, L_32, L_33, L_34, L_35, L_40, L_41, L_42, L_43, L_44, L_45, L_47, L_48, L_50, L_53, L_57, L_59, L_60, L_61, L_63, L_64, L_97, L_100, L_101, L_102, L_103, L_122, L_130, L_216, L_255, L_364, L_400, L_402, L_420, L_728, L_768, L_999, L_1000, L_1093, L_1872, L_2000, L_9999, L_12345, L_252645135, L_858993459, L_1103515245, L_1431655765, Lm_1, Lm_2, Lm_8, N_zero, N_cast, N_add, N_mul, N_sub, N_addM, N_lt_tp, N_lt_fp, N_le_tp, N_le_fp, N_eq_tp, N_eq_fp, MN_ltp, MN_lep, NM_ltp, NM_lep, NM_eqp, MN_eqp, MM_lt_tp, MM_lt_fp, MM_le_tp, MM_le_fp, MM_eq_tp, MM_eq_fp, N_cl, N_in_t, N_in_f, M_in, N_div, N_rem, N_nb0, N_nb1, cond_true, cond_false, Bool.not_true, Bool.not_false, Bool.and_true, Bool.true_and, Bool.and_false, Bool.false_and, decide_true, decide_false, Option.bind_some, Option.bind_none]
      refine Ok_bind (X_tonight C D) ?_
      rintro h1 ⟨F1, A1, E1, D1⟩
      rw [E1.1 i hi, apl_mk, X_partN (CoreX C F1) (by omega) hg]
      exact Ok_some ⟨rfl, F1, D1⟩
    · intro h1 C1
      show Ok (q_M_chance sc h1 (nN i) (nN g)) _
      rw [q_M_chance_eq, M_isHouse_t C1 hi]
      simp (disch := omega) only [L_0, L_1, L_2, L_3, L_4, L_5, L_6, L_7, L_8, L_9, L_10, L_11, L_12, L_13, L_14, L_15, L_16, L_17, L_18, L_19, L_20, L_21, L_22, L_23, L_24, L_25, L_26, L_27, L_28, L_29, L_30, L_31, L_32, L_33, L_34, L_35, L_40, L_41, L_42, L_43, L_44, L_45, L_47, L_48, L_50, L_53, L_57, L_59, L_60, L_61, L_63, L_64, L_97, L_100, L_101, L_102, L_103, L_122, L_130, L_216, L_255, L_364, L_400, L_402, L_420, L_728, L_768, L_999, L_1000, L_1093, L_1872, L_2000, L_9999, L_12345, L_252645135, L_858993459, L_1103515245, L_1431655765, Lm_1, Lm_2, Lm_8, N_zero, N_cast, N_add, N_mul, N_sub, N_addM, N_lt_tp, N_lt_fp, N_le_tp, N_le_fp, N_eq_tp, N_eq_fp, MN_ltp, MN_lep, NM_ltp, NM_lep, NM_eqp, MN_eqp, MM_lt_tp, MM_lt_fp, MM_le_tp, MM_le_fp, MM_eq_tp, MM_eq_fp, N_cl, N_in_t, N_in_f, M_in, N_div, N_rem, N_nb0, N_nb1, cond_true, cond_false, Bool.not_true, Bool.not_false, Bool.and_true, Bool.true_and, Bool.and_false, Bool.false_and, decide_true, decide_false, Option.bind_some, Option.bind_none]
      refine Ok_bind (M_lays C1) ?_
      rintro h2 ⟨F2, A2, O2, -⟩
      rw [M_chanceOf hA A2 O2 hi]
      simp only [Option.bind_some]
      rw [M_allWeight hA A2]
      simp only [Option.bind_some]
      rw [apl_mk, an_mk, M_lineN (by omega) p2 (by omega) hg]
      exact Ok_some ⟨rfl, F2⟩
  · refine pure_query (a := nM 1) C D ?_ ?_
    · show q_X_chance sc h a (nN g) = _
      rw [q_X_chance_eq, X_isHouse_f C ha]
      simp (disch := omega) only [L_0, L_1, L_2, L_3, L_4, L_5, L_6, L_7, L_8, L_9, L_10, L_11, L_12, L_13, L_14, L_15, L_16, L_17, L_18, L_19, L_20, L_21, L_22, L_23, L_24, L_25, L_26, L_27, L_28, L_29, L_30, L_31, L_32, L_33, L_34, L_35, L_40, L_41, L_42, L_43, L_44, L_45, L_47, L_48, L_50, L_53, L_57, L_59, L_60, L_61, L_63, L_64, L_97, L_100, L_101, L_102, L_103, L_122, L_130, L_216, L_255, L_364, L_400, L_402, L_420, L_728, L_768, L_999, L_1000, L_1093, L_1872, L_2000, L_9999, L_12345, L_252645135, L_858993459, L_1103515245, L_1431655765, Lm_1, Lm_2, Lm_8, N_zero, N_cast, N_add, N_mul, N_sub, N_addM, N_lt_tp, N_lt_fp, N_le_tp, N_le_fp, N_eq_tp, N_eq_fp, MN_ltp, MN_lep, NM_ltp, NM_lep, NM_eqp, MN_eqp, MM_lt_tp, MM_lt_fp, MM_le_tp, MM_le_fp, MM_eq_tp, MM_eq_fp, N_cl, N_in_t, N_in_f, M_in, N_div, N_rem, N_nb0, N_nb1, cond_true, cond_false, Bool.not_true, Bool.not_false, Bool.and_true, Bool.true_and, Bool.and_false, Bool.false_and, decide_true, decide_false, Option.bind_some, Option.bind_none]
    · show Ok (q_M_chance sc h a (nN g)) _
      rw [q_M_chance_eq, M_isHouse_f C ha]
      simp (disch := omega) only [L_0, L_1, L_2, L_3, L_4, L_5, L_6, L_7, L_8, L_9, L_10, L_11, L_12, L_13, L_14, L_15, L_16, L_17, L_18, L_19, L_20, L_21, L_22, L_23, L_24, L_25, L_26, L_27, L_28, L_29, L_30, L_31, L_32, L_33, L_34, L_35, L_40, L_41, L_42, L_43, L_44, L_45, L_47, L_48, L_50, L_53, L_57, L_59, L_60, L_61, L_63, L_64, L_97, L_100, L_101, L_102, L_103, L_122, L_130, L_216, L_255, L_364, L_400, L_402, L_420, L_728, L_768, L_999, L_1000, L_1093, L_1872, L_2000, L_9999, L_12345, L_252645135, L_858993459, L_1103515245, L_1431655765, Lm_1, Lm_2, Lm_8, N_zero, N_cast, N_add, N_mul, N_sub, N_addM, N_lt_tp, N_lt_fp, N_le_tp, N_le_fp, N_eq_tp, N_eq_fp, MN_ltp, MN_lep, NM_ltp, NM_lep, NM_eqp, MN_eqp, MM_lt_tp, MM_lt_fp, MM_le_tp, MM_le_fp, MM_eq_tp, MM_eq_fp, N_cl, N_in_t, N_in_f, M_in, N_div, N_rem, N_nb0, N_nb1, cond_true, cond_false, Bool.not_true, Bool.not_false, Bool.and_true, Bool.true_and, Bool.and_false, Bool.false_and, decide_true, decide_false, Option.bind_some, Option.bind_none]
      exact Ok_some ⟨rfl, Fr_refl _ _⟩
theorem c_mean {h : wb_H} (I : Inv h B) {g : Nat} (hg : g ≤ 1) : Same (fun h => q_X_mean sc h (nN g)) (fun h => q_M_mean sc h (nN g)) h B := by
  obtain ⟨T, R, v, q, s, C, D⟩ := I
  have hA := mkA_ok C.1 C.2.1
  have n6 := C.1.1
  have p1 := p10_le T C.1
  have p2 := p10_pos (tn T + 1)
  have hm := mnA_le hA 0
  refine query (a := fr (mnA (mkA T R) 0 : Nat) (10 ^ (tn T + 1)) g) C ?_ ?_
  · show Ok (q_X_mean sc h (nN g)) _
    rw [q_X_mean_eq, C.2.2.2.2.2.2.2.1.1.2.2]
    refine Ok_bind (X_meanWith C D C.2.1.2.2.2.2) ?_
    rintro ⟨x, h1⟩ ⟨x1, F1, D1⟩
    rw [rwith_self] at x1
    simp only at x1 F1 D1 ⊢
    rw [x1, X_partN (CoreX C F1) (by omega) hg]
    exact Ok_some ⟨rfl, F1, D1⟩
  · intro h1 C1
    show Ok (q_M_mean sc h1 (nN g)) _
    rw [q_M_mean_eq]
    refine Ok_bind (M_copies C1) ?_
    rintro h2 ⟨F2, g1, g2, g3⟩
    have A2 := MA_now C1 F2 rfl rfl C.2.1 (Row_now C1 g1)
    refine Ok_bind (M_meanNow hA A2 (Nat.zero_le _) g3) ?_
    rintro ⟨x, h3⟩ ⟨x1, F3⟩
    simp only at x1 F3 ⊢
    rw [M_allWeight hA (MA_fr F3 rfl A2)]
    simp only [Option.bind_some]
    rw [x1, an_mk, M_lineN (by omega) p2 (by omega) hg]
    exact Ok_some ⟨rfl, Fr_trans (Fr_mono F2 rfl) (Fr_mono F3 rfl)⟩
theorem X_wow {h : wb_H} {A : wa} {q k : Nat} (hA : wa_ok A) (hX : XA h q A) (hE : XE h A 0) (hk : k ≤ 6) : q_Evening_weightOfWrongs sc h (nN k) = some (nN (sm (nw A) (fun w => if wrW A 0 w = k then wt A w else 0)), h) := by
  have h6 := hA.1
  have a3 := hX.2.2.1
  have b1 := pow3_le (an A) (by omega)
  have b3 := rf_succ (an A) (by omega)
  have b4 := rf_le (an A + 1) (by omega) 7 (by omega) (by omega)
  rw [rf_7] at b4
  have key : ∀ m j, j + m = 3 ^ an A → q_Evening_weightOfWrongs_L4 sc h (nN k) (nN (sm j (fun x => (if cd 0 x (an A) = k then (dpr A 0 (an A)).1 x else 0) + (if cd 1 x (an A) = k then (dpr A 0 (an A)).2 x else 0)))) (nN j) = some (nN (sm (3 ^ an A) (fun x => (if cd 0 x (an A) = k then (dpr A 0 (an A)).1 x else 0) + (if cd 1 x (an A) = k then (dpr A 0 (an A)).2 x else 0))), h) := by
    intro m
    induction m with
    | zero =>
      intro j hj
      rw [Nat.add_zero] at hj
      subst hj
      rw [q_Evening_weightOfWrongs_L4_eq]
      simp (disch := omega) only [L_0, L_1, L_2, L_3, L_4, L_5, L_6, L_7, L_8, L_9, L_10, L_11, L_12, L_13, L_14, L_15, L_16, L_17, L_18, L_19, L_20, L_21, L_22, L_23, L_24, L_25, L_26, L_27, L_28, L_29, L_30, L_31, L_32, L_33, L_34, L_35, L_40, L_41, L_42, L_43, L_44, L_45, L_47, L_48, L_50, L_53, L_57, L_59, L_60, L_61, L_63, L_64, L_97, L_100, L_101, L_102, L_103, L_122, L_130, L_216, L_255, L_364, L_400, L_402, L_420, L_728, L_768, L_999, L_1000, L_1093, L_1872, L_2000, L_9999, L_12345, L_252645135, L_858993459, L_1103515245, L_1431655765, Lm_1, Lm_2, Lm_8, N_zero, N_cast, N_add, N_mul, N_sub, N_addM, N_lt_tp, N_lt_fp, N_le_tp, N_le_fp, N_eq_tp, N_eq_fp, MN_ltp, MN_lep, NM_ltp, NM_lep, NM_eqp, MN_eqp, MM_lt_tp, MM_lt_fp, MM_le_tp, MM_le_fp, MM_eq_tp, MM_eq_fp, N_cl, N_in_t, N_in_f, M_in, N_div, N_rem, N_nb0, N_nb1, cond_true, cond_false, Bool.not_true, Bool.not_false, Bool.and_true, Bool.true_and, Bool.and_false, Bool.false_and, decide_true, decide_false, Option.bind_some, Option.bind_none, a3, t3_1, t3_2]
    | succ m ih =>
      intro j hj
      have f1 := hE.2.2.1 j (by omega)
      have f2 := hE.2.2.2.1 j (by omega)
      have c0 := cd_le 0 (an A) j
      have c1 := cd_le 1 (an A) j
      have ih2 := ih (j + 1) (by omega)
      rw [sm] at ih2
      rw [q_Evening_weightOfWrongs_L4_eq]
      simp (disch := omega) only [L_0, L_1, L_2, L_3, L_4, L_5, L_6, L_7, L_8, L_9, L_10, L_11, L_12, L_13, L_14, L_15, L_16, L_17, L_18, L_19, L_20, L_21, L_22, L_23, L_24, L_25, L_26, L_27, L_28, L_29, L_30, L_31, L_32, L_33, L_34, L_35, L_40, L_41, L_42, L_43, L_44, L_45, L_47, L_48, L_50, L_53, L_57, L_59, L_60, L_61, L_63, L_64, L_97, L_100, L_101, L_102, L_103, L_122, L_130, L_216, L_255, L_364, L_400, L_402, L_420, L_728, L_768, L_999, L_1000, L_1093, L_1872, L_2000, L_9999, L_12345, L_252645135, L_858993459, L_1103515245, L_1431655765, Lm_1, Lm_2, Lm_8, N_zero, N_cast, N_add, N_mul, N_sub, N_addM, N_lt_tp, N_lt_fp, N_le_tp, N_le_fp, N_eq_tp, N_eq_fp, MN_ltp, MN_lep, NM_ltp, NM_lep, NM_eqp, MN_eqp, MM_lt_tp, MM_lt_fp, MM_le_tp, MM_le_fp, MM_eq_tp, MM_eq_fp, N_cl, N_in_t, N_in_f, M_in, N_div, N_rem, N_nb0, N_nb1, cond_true, cond_false, Bool.not_true, Bool.not_false, Bool.and_true, Bool.true_and, Bool.and_false, Bool.false_and, decide_true, decide_false, Option.bind_some, Option.bind_none, a3, t3_1, t3_2, tr_1, tr_2, tr_1z, tr_2z, X_binsOf (sc := sc) (h := h) (show 0 ≤ 2 by decide) (show an A ≤ 6 by omega) (show j ≤ 2000000 by omega), X_binsOf (sc := sc) (h := h) (show 1 ≤ 2 by decide) (show an A ≤ 6 by omega) (show j ≤ 2000000 by omega)]
      by_cases e0 : cd 0 j (an A) = k
      · rw [if_pos e0] at ih2
        by_cases e1 : cd 1 j (an A) = k
        · rw [if_pos e1, ← Nat.add_assoc] at ih2
          simp (disch := omega) only [L_0, L_1, L_2, L_3, L_4, L_5, L_6, L_7, L_8, L_9, L_10, L_11, L_12, L_13, L_14, L_15, L_16, L_17, L_18, L_19, L_20, L_21, L_22, L_23, L_24, L_25, L_26, L_27, L_28, L_29, L_30, L_31, L_32, L_33, L_34, L_35, L_40, L_41, L_42, L_43, L_44, L_45, L_47, L_48, L_50, L_53, L_57, L_59, L_60, L_61, L_63, L_64, L_97, L_100, L_101, L_102, L_103, L_122, L_130, L_216, L_255, L_364, L_400, L_402, L_420, L_728, L_768, L_999, L_1000, L_1093, L_1872, L_2000, L_9999, L_12345, L_252645135, L_858993459, L_1103515245, L_1431655765, Lm_1, Lm_2, Lm_8, N_zero, N_cast, N_add, N_mul, N_sub, N_addM, N_lt_tp, N_lt_fp, N_le_tp, N_le_fp, N_eq_tp, N_eq_fp, MN_ltp, MN_lep, NM_ltp, NM_lep, NM_eqp, MN_eqp, MM_lt_tp, MM_lt_fp, MM_le_tp, MM_le_fp, MM_eq_tp, MM_eq_fp, N_cl, N_in_t, N_in_f, M_in, N_div, N_rem, N_nb0, N_nb1, cond_true, cond_false, Bool.not_true, Bool.not_false, Bool.and_true, Bool.true_and, Bool.and_false, Bool.false_and, decide_true, decide_false, Option.bind_some, Option.bind_none, f1, f2]
          exact ih2
        · rw [if_neg e1, Nat.add_zero] at ih2
          simp (disch := omega) only [L_0, L_1, L_2, L_3, L_4, L_5, L_6, L_7, L_8, L_9, L_10, L_11, L_12, L_13, L_14, L_15, L_16, L_17, L_18, L_19, L_20, L_21, L_22, L_23, L_24, L_25, L_26, L_27, L_28, L_29, L_30, L_31, L_32, L_33, L_34, L_35, L_40, L_41, L_42, L_43, L_44, L_45, L_47, L_48, L_50, L_53, L_57, L_59, L_60, L_61, L_63, L_64, L_97, L_100, L_101, L_102, L_103, L_122, L_130, L_216, L_255, L_364, L_400, L_402, L_420, L_728, L_768, L_999, L_1000, L_1093, L_1872, L_2000, L_9999, L_12345, L_252645135, L_858993459, L_1103515245, L_1431655765, Lm_1, Lm_2, Lm_8, N_zero, N_cast, N_add, N_mul, N_sub, N_addM, N_lt_tp, N_lt_fp, N_le_tp, N_le_fp, N_eq_tp, N_eq_fp, MN_ltp, MN_lep, NM_ltp, NM_lep, NM_eqp, MN_eqp, MM_lt_tp, MM_lt_fp, MM_le_tp, MM_le_fp, MM_eq_tp, MM_eq_fp, N_cl, N_in_t, N_in_f, M_in, N_div, N_rem, N_nb0, N_nb1, cond_true, cond_false, Bool.not_true, Bool.not_false, Bool.and_true, Bool.true_and, Bool.and_false, Bool.false_and, decide_true, decide_false, Option.bind_some, Option.bind_none, f1, f2]
          exact ih2
      · rw [if_neg e0, Nat.zero_add] at ih2
        by_cases e1 : cd 1 j (an A) = k
        · rw [if_pos e1] at ih2
          simp (disch := omega) only [L_0, L_1, L_2, L_3, L_4, L_5, L_6, L_7, L_8, L_9, L_10, L_11, L_12, L_13, L_14, L_15, L_16, L_17, L_18, L_19, L_20, L_21, L_22, L_23, L_24, L_25, L_26, L_27, L_28, L_29, L_30, L_31, L_32, L_33, L_34, L_35, L_40, L_41, L_42, L_43, L_44, L_45, L_47, L_48, L_50, L_53, L_57, L_59, L_60, L_61, L_63, L_64, L_97, L_100, L_101, L_102, L_103, L_122, L_130, L_216, L_255, L_364, L_400, L_402, L_420, L_728, L_768, L_999, L_1000, L_1093, L_1872, L_2000, L_9999, L_12345, L_252645135, L_858993459, L_1103515245, L_1431655765, Lm_1, Lm_2, Lm_8, N_zero, N_cast, N_add, N_mul, N_sub, N_addM, N_lt_tp, N_lt_fp, N_le_tp, N_le_fp, N_eq_tp, N_eq_fp, MN_ltp, MN_lep, NM_ltp, NM_lep, NM_eqp, MN_eqp, MM_lt_tp, MM_lt_fp, MM_le_tp, MM_le_fp, MM_eq_tp, MM_eq_fp, N_cl, N_in_t, N_in_f, M_in, N_div, N_rem, N_nb0, N_nb1, cond_true, cond_false, Bool.not_true, Bool.not_false, Bool.and_true, Bool.true_and, Bool.and_false, Bool.false_and, decide_true, decide_false, Option.bind_some, Option.bind_none, f1, f2]
          exact ih2
        · rw [if_neg e1, Nat.add_zero] at ih2
          simp (disch := omega) only [L_0, L_1, L_2, L_3, L_4, L_5, L_6, L_7, L_8, L_9, L_10, L_11, L_12, L_13, L_14, L_15, L_16, L_17, L_18, L_19, L_20, L_21, L_22, L_23, L_24, L_25, L_26, L_27, L_28, L_29, L_30, L_31, L_32, L_33, L_34, L_35, L_40, L_41, L_42, L_43, L_44, L_45, L_47, L_48, L_50, L_53, L_57, L_59, L_60, L_61, L_63, L_64, L_97, L_100, L_101, L_102, L_103, L_122, L_130, L_216, L_255, L_364, L_400, L_402, L_420, L_728, L_768, L_999, L_1000, L_1093, L_1872, L_2000, L_9999, L_12345, L_252645135, L_858993459, L_1103515245, L_1431655765, Lm_1, Lm_2, Lm_8, N_zero, N_cast, N_add, N_mul, N_sub, N_addM, N_lt_tp, N_lt_fp, N_le_tp, N_le_fp, N_eq_tp, N_eq_fp, MN_ltp, MN_lep, NM_ltp, NM_lep, NM_eqp, MN_eqp, MM_lt_tp, MM_lt_fp, MM_le_tp, MM_le_fp, MM_eq_tp, MM_eq_fp, N_cl, N_in_t, N_in_f, M_in, N_div, N_rem, N_nb0, N_nb1, cond_true, cond_false, Bool.not_true, Bool.not_false, Bool.and_true, Bool.true_and, Bool.and_false, Bool.false_and, decide_true, decide_false, Option.bind_some, Option.bind_none, f1, f2]
          exact ih2
  rw [q_Evening_weightOfWrongs_eq, street_sum hA]
  exact key (3 ^ an A) 0 (Nat.zero_add _)
theorem M_street_L {h : wb_H} {A : wa} {s l k g : Nat} (hA : wa_ok A) (hM : MA h s l A) (hO : fO h A 0) (hk : k ≤ 6) (hg : g ≤ 1) : ∀ m j, j + m = nw A → q_M_street_L21 sc h (nN k) (nN g) (nN (sm j (fun w => if wrW A 0 w = k then wt A w else 0))) (nN j) = some (fr (sm (nw A) (fun w => if wrW A 0 w = k then wt A w else 0) : Nat) (10 ^ (an A + 1)) g, h) := by
  have h6 := hA.1
  have h128 := nw_le hA
  have p1 : 10 ^ (an A + 1) ≤ 10000000 := Nat.pow_le_pow_right (n := 10) (by decide) (show an A + 1 ≤ 7 by omega)
  have p2 := p10_pos (an A + 1)
  intro m
  induction m with
  | zero =>
    intro j hj
    rw [Nat.add_zero] at hj
    subst hj
    have hs := sm_wt_le hA (fun w => wrW A 0 w = k) (Nat.le_refl (nw A))
    rw [q_M_street_L21_eq, M_worlds hA hM]
    simp (disch := omega) only [L_0, L_1, L_2, L_3, L_4, L_5, L_6, L_7, L_8, L_9, L_10, L_11, L_12, L_13, L_14, L_15, L_16, L_17, L_18, L_19, L_20, L_21, L_22, L_23, L_24, L_25, L_26, L_27, L_28, L_29, L_30, L_31, L_32, L_33, L_34, L_35, L_40, L_41, L_42, L_43, L_44, L_45, L_47, L_48, L_50, L_53, L_57, L_59, L_60, L_61, L_63, L_64, L_97, L_100, L_101, L_102, L_103, L_122, L_130, L_216, L_255, L_364, L_400, L_402, L_420, L_728, L_768, L_999, L_1000, L_1093, L_1872, L_2000, L_9999, L_12345, L_252645135, L_858993459, L_1103515245, L_1431655765, Lm_1, Lm_2, Lm_8, N_zero, N_cast, N_add, N_mul, N_sub, N_addM, N_lt_tp, N_lt_fp, N_le_tp, N_le_fp, N_eq_tp, N_eq_fp, MN_ltp, MN_lep, NM_ltp, NM_lep, NM_eqp, MN_eqp, MM_lt_tp, MM_lt_fp, MM_le_tp, MM_le_fp, MM_eq_tp, MM_eq_fp, N_cl, N_in_t, N_in_f, M_in, N_div, N_rem, N_nb0, N_nb1, cond_true, cond_false, Bool.not_true, Bool.not_false, Bool.and_true, Bool.true_and, Bool.and_false, Bool.false_and, decide_true, decide_false, Option.bind_some, Option.bind_none, M_allWeight hA hM]
    rw [M_lineN (by omega) p2 (by omega) hg]
    rfl
  | succ m ih =>
    intro j hj
    have fw := hO.1 j (by omega)
    have wl := wrW_le A 0 j
    have ih2 := ih (j + 1) (by omega)
    rw [sm] at ih2
    rw [q_M_street_L21_eq, M_worlds hA hM]
    simp (disch := omega) only [L_0, L_1, L_2, L_3, L_4, L_5, L_6, L_7, L_8, L_9, L_10, L_11, L_12, L_13, L_14, L_15, L_16, L_17, L_18, L_19, L_20, L_21, L_22, L_23, L_24, L_25, L_26, L_27, L_28, L_29, L_30, L_31, L_32, L_33, L_34, L_35, L_40, L_41, L_42, L_43, L_44, L_45, L_47, L_48, L_50, L_53, L_57, L_59, L_60, L_61, L_63, L_64, L_97, L_100, L_101, L_102, L_103, L_122, L_130, L_216, L_255, L_364, L_400, L_402, L_420, L_728, L_768, L_999, L_1000, L_1093, L_1872, L_2000, L_9999, L_12345, L_252645135, L_858993459, L_1103515245, L_1431655765, Lm_1, Lm_2, Lm_8, N_zero, N_cast, N_add, N_mul, N_sub, N_addM, N_lt_tp, N_lt_fp, N_le_tp, N_le_fp, N_eq_tp, N_eq_fp, MN_ltp, MN_lep, NM_ltp, NM_lep, NM_eqp, MN_eqp, MM_lt_tp, MM_lt_fp, MM_le_tp, MM_le_fp, MM_eq_tp, MM_eq_fp, N_cl, N_in_t, N_in_f, M_in, N_div, N_rem, N_nb0, N_nb1, cond_true, cond_false, Bool.not_true, Bool.not_false, Bool.and_true, Bool.true_and, Bool.and_false, Bool.false_and, decide_true, decide_false, Option.bind_some, Option.bind_none, M_wrongIn hA hM hO (show j < nw A by omega)]
    by_cases e : wrW A 0 j = k
    · rw [if_pos e] at ih2
      simp (disch := omega) only [L_0, L_1, L_2, L_3, L_4, L_5, L_6, L_7, L_8, L_9, L_10, L_11, L_12, L_13, L_14, L_15, L_16, L_17, L_18, L_19, L_20, L_21, L_22, L_23, L_24, L_25, L_26, L_27, L_28, L_29, L_30, L_31, L_32, L_33, L_34, L_35, L_40, L_41, L_42, L_43, L_44, L_45, L_47, L_48, L_50, L_53, L_57, L_59, L_60, L_61, L_63, L_64, L_97, L_100, L_101, L_102, L_103, L_122, L_130, L_216, L_255, L_364, L_400, L_402, L_420, L_728, L_768, L_999, L_1000, L_1093, L_1872, L_2000, L_9999, L_12345, L_252645135, L_858993459, L_1103515245, L_1431655765, Lm_1, Lm_2, Lm_8, N_zero, N_cast, N_add, N_mul, N_sub, N_addM, N_lt_tp, N_lt_fp, N_le_tp, N_le_fp, N_eq_tp, N_eq_fp, MN_ltp, MN_lep, NM_ltp, NM_lep, NM_eqp, MN_eqp, MM_lt_tp, MM_lt_fp, MM_le_tp, MM_le_fp, MM_eq_tp, MM_eq_fp, N_cl, N_in_t, N_in_f, M_in, N_div, N_rem, N_nb0, N_nb1, cond_true, cond_false, Bool.not_true, Bool.not_false, Bool.and_true, Bool.true_and, Bool.and_false, Bool.false_and, decide_true, decide_false, Option.bind_some, Option.bind_none, fw]
      exact ih2
    · rw [if_neg e, Nat.add_zero] at ih2
      simp (disch := omega) only [L_0, L_1, L_2, L_3, L_4, L_5, L_6, L_7, L_8, L_9, L_10, L_11, L_12, L_13, L_14, L_15, L_16, L_17, L_18, L_19, L_20, L_21, L_22, L_23, L_24, L_25, L_26, L_27, L_28, L_29, L_30, L_31, L_32, L_33, L_34, L_35, L_40, L_41, L_42, L_43, L_44, L_45, L_47, L_48, L_50, L_53, L_57, L_59, L_60, L_61, L_63, L_64, L_97, L_100, L_101, L_102, L_103, L_122, L_130, L_216, L_255, L_364, L_400, L_402, L_420, L_728, L_768, L_999, L_1000, L_1093, L_1872, L_2000, L_9999, L_12345, L_252645135, L_858993459, L_1103515245, L_1431655765, Lm_1, Lm_2, Lm_8, N_zero, N_cast, N_add, N_mul, N_sub, N_addM, N_lt_tp, N_lt_fp, N_le_tp, N_le_fp, N_eq_tp, N_eq_fp, MN_ltp, MN_lep, NM_ltp, NM_lep, NM_eqp, MN_eqp, MM_lt_tp, MM_lt_fp, MM_le_tp, MM_le_fp, MM_eq_tp, MM_eq_fp, N_cl, N_in_t, N_in_f, M_in, N_div, N_rem, N_nb0, N_nb1, cond_true, cond_false, Bool.not_true, Bool.not_false, Bool.and_true, Bool.true_and, Bool.and_false, Bool.false_and, decide_true, decide_false, Option.bind_some, Option.bind_none]
      exact ih2
theorem c_street {h : wb_H} (I : Inv h B) (a : Int32) {g : Nat} (hg : g ≤ 1) : Same (fun h => q_X_street sc h a (nN g)) (fun h => q_M_street sc h a (nN g)) h B := by
  obtain ⟨T, R, v, q, s, C, D⟩ := I
  have hA := mkA_ok C.1 C.2.1
  have n6 := C.1.1
  by_cases ha : hsP (6 + 1) a
  · obtain ⟨k, hk, rfl⟩ := ha
    have hs := sm_wt_le hA (fun w => wrW (mkA T R) 0 w = k) (Nat.le_refl (nw (mkA T R)))
    refine query (a := fr (sm (nw (mkA T R)) (fun w => if wrW (mkA T R) 0 w = k then wt (mkA T R) w else 0) : Nat) (10 ^ (tn T + 1)) g) C ?_ ?_
    · show Ok (q_X_street sc h (nN k) (nN g)) _
      rw [q_X_street_eq]
      simp (disch := omega) only [L_0, L_1, L_2, L_3, L_4, L_5, L_6, L_7, L_8, L_9, L_10, L_11, L_12, L_13, L_14, L_15, L_16, L_17, L_18, L_19, L_20, L_21, L_22, L_23, L_24, L_25, L_26, L_27, L_28, L_29, L_30, L_31, L_32, L_33, L_34, L_35, L_40, L_41, L_42, L_43, L_44, L_45, L_47, L_48, L_50, L_53, L_57, L_59, L_60, L_61, L_63, L_64, L_97, L_100, L_101, L_102, L_103, L_122, L_130, L_216, L_255, L_364, L_400, L_402, L_420, L_728, L_768, L_999, L_1000, L_1093, L_1872, L_2000, L_9999, L_12345, L_252645135, L_858993459, L_1103515245, L_1431655765, Lm_1, Lm_2, Lm_8, N_zero, N_cast, N_add, N_mul, N_sub, N_addM, N_lt_tp, N_lt_fp, N_le_tp, N_le_fp, N_eq_tp, N_eq_fp, MN_ltp, MN_lep, NM_ltp, NM_lep, NM_eqp, MN_eqp, MM_lt_tp, MM_lt_fp, MM_le_tp, MM_le_fp, MM_eq_tp, MM_eq_fp, N_cl, N_in_t, N_in_f, M_in, N_div, N_rem, N_nb0, N_nb1, cond_true, cond_false, Bool.not_true, Bool.not_false, Bool.and_true, Bool.true_and, Bool.and_false, Bool.false_and, decide_true, decide_false, Option.bind_some, Option.bind_none]
      refine Ok_bind (X_tonight C D) ?_
      rintro h1 ⟨F1, A1, E1, D1⟩
      rw [X_wow hA A1 E1 (by omega)]
      simp only [Option.bind_some]
      rw [X_partN (CoreX C F1) (by omega) hg]
      exact Ok_some ⟨rfl, F1, D1⟩
    · intro h1 C1
      show Ok (q_M_street sc h1 (nN k) (nN g)) _
      rw [q_M_street_eq]
      simp only [L_0, L_1, L_2, L_3, L_4, L_5, L_6, L_7, L_8, L_9, L_10, L_11, L_12, L_13, L_14, L_15, L_16, L_17, L_18, L_19, L_20, L_21, L_22, L_23, L_24, L_25, L_26, L_27, L_28, L_29, L_30, L_31, L_32, L_33, L_34, L_35, L_40, L_41, L_42, L_43, L_44, L_45, L_47, L_48, L_50, L_53, L_57, L_59, L_60, L_61, L_63, L_64, L_97, L_100, L_101, L_102, L_103, L_122, L_130, L_216, L_255, L_364, L_400, L_402, L_420, L_728, L_768, L_999, L_1000, L_1093, L_1872, L_2000, L_9999, L_12345, L_252645135, L_858993459, L_1103515245, L_1431655765, Lm_1, Lm_2, Lm_8]
      rw [M_in_t (by omega) (by decide)]
      simp (disch := omega) only [L_0, L_1, L_2, L_3, L_4, L_5, L_6, L_7, L_8, L_9, L_10, L_11, L_12, L_13, L_14, L_15, L_16, L_17, L_18, L_19, L_20, L_21, L_22, L_23, L_24, L_25, L_26, L_27, L_28, L_29, L_30, L_31, L_32, L_33, L_34, L_35, L_40, L_41, L_42, L_43, L_44, L_45, L_47, L_48, L_50, L_53, L_57, L_59, L_60, L_61, L_63, L_64, L_97, L_100, L_101, L_102, L_103, L_122, L_130, L_216, L_255, L_364, L_400, L_402, L_420, L_728, L_768, L_999, L_1000, L_1093, L_1872, L_2000, L_9999, L_12345, L_252645135, L_858993459, L_1103515245, L_1431655765, Lm_1, Lm_2, Lm_8, N_zero, N_cast, N_add, N_mul, N_sub, N_addM, N_lt_tp, N_lt_fp, N_le_tp, N_le_fp, N_eq_tp, N_eq_fp, MN_ltp, MN_lep, NM_ltp, NM_lep, NM_eqp, MN_eqp, MM_lt_tp, MM_lt_fp, MM_le_tp, MM_le_fp, MM_eq_tp, MM_eq_fp, N_cl, N_in_t, N_in_f, M_in, N_div, N_rem, N_nb0, N_nb1, cond_true, cond_false, Bool.not_true, Bool.not_false, Bool.and_true, Bool.true_and, Bool.and_false, Bool.false_and, decide_true, decide_false, Option.bind_some, Option.bind_none]
      refine Ok_bind (M_lays C1) ?_
      rintro h2 ⟨F2, A2, O2, -⟩
      have := M_street_L (sc := sc) hA A2 O2 (k := k) (by omega) hg (nw (mkA T R)) 0 (Nat.zero_add _)
      exact ⟨_, this, rfl, F2⟩
  · refine pure_query (a := nM 1) C D ?_ ?_
    · show q_X_street sc h a (nN g) = _
      rw [q_X_street_eq]
      rcases NM_all a with ⟨k, rfl, hk⟩ | ⟨k, rfl, hk1, hk2⟩
      · have : ¬ k < 6 + 1 := fun t => ha ⟨k, t, rfl⟩
        simp (disch := omega) only [L_0, L_1, L_2, L_3, L_4, L_5, L_6, L_7, L_8, L_9, L_10, L_11, L_12, L_13, L_14, L_15, L_16, L_17, L_18, L_19, L_20, L_21, L_22, L_23, L_24, L_25, L_26, L_27, L_28, L_29, L_30, L_31, L_32, L_33, L_34, L_35, L_40, L_41, L_42, L_43, L_44, L_45, L_47, L_48, L_50, L_53, L_57, L_59, L_60, L_61, L_63, L_64, L_97, L_100, L_101, L_102, L_103, L_122, L_130, L_216, L_255, L_364, L_400, L_402, L_420, L_728, L_768, L_999, L_1000, L_1093, L_1872, L_2000, L_9999, L_12345, L_252645135, L_858993459, L_1103515245, L_1431655765, Lm_1, Lm_2, Lm_8, N_zero, N_cast, N_add, N_mul, N_sub, N_addM, N_lt_tp, N_lt_fp, N_le_tp, N_le_fp, N_eq_tp, N_eq_fp, MN_ltp, MN_lep, NM_ltp, NM_lep, NM_eqp, MN_eqp, MM_lt_tp, MM_lt_fp, MM_le_tp, MM_le_fp, MM_eq_tp, MM_eq_fp, N_cl, N_in_t, N_in_f, M_in, N_div, N_rem, N_nb0, N_nb1, cond_true, cond_false, Bool.not_true, Bool.not_false, Bool.and_true, Bool.true_and, Bool.and_false, Bool.false_and, decide_true, decide_false, Option.bind_some, Option.bind_none]
      · simp (disch := omega) only [L_0, L_1, L_2, L_3, L_4, L_5, L_6, L_7, L_8, L_9, L_10, L_11, L_12, L_13, L_14, L_15, L_16, L_17, L_18, L_19, L_20, L_21, L_22, L_23, L_24, L_25, L_26, L_27, L_28, L_29, L_30, L_31, L_32, L_33, L_34, L_35, L_40, L_41, L_42, L_43, L_44, L_45, L_47, L_48, L_50, L_53, L_57, L_59, L_60, L_61, L_63, L_64, L_97, L_100, L_101, L_102, L_103, L_122, L_130, L_216, L_255, L_364, L_400, L_402, L_420, L_728, L_768, L_999, L_1000, L_1093, L_1872, L_2000, L_9999, L_12345, L_252645135, L_858993459, L_1103515245, L_1431655765, Lm_1, Lm_2, Lm_8, N_zero, N_cast, N_add, N_mul, N_sub, N_addM, N_lt_tp, N_lt_fp, N_le_tp, N_le_fp, N_eq_tp, N_eq_fp, MN_ltp, MN_lep, NM_ltp, NM_lep, NM_eqp, MN_eqp, MM_lt_tp, MM_lt_fp, MM_le_tp, MM_le_fp, MM_eq_tp, MM_eq_fp, N_cl, N_in_t, N_in_f, M_in, N_div, N_rem, N_nb0, N_nb1, cond_true, cond_false, Bool.not_true, Bool.not_false, Bool.and_true, Bool.true_and, Bool.and_false, Bool.false_and, decide_true, decide_false, Option.bind_some, Option.bind_none]
    · show Ok (q_M_street sc h a (nN g)) _
      rw [q_M_street_eq]
      simp only [L_0, L_1, L_2, L_3, L_4, L_5, L_6, L_7, L_8, L_9, L_10, L_11, L_12, L_13, L_14, L_15, L_16, L_17, L_18, L_19, L_20, L_21, L_22, L_23, L_24, L_25, L_26, L_27, L_28, L_29, L_30, L_31, L_32, L_33, L_34, L_35, L_40, L_41, L_42, L_43, L_44, L_45, L_47, L_48, L_50, L_53, L_57, L_59, L_60, L_61, L_63, L_64, L_97, L_100, L_101, L_102, L_103, L_122, L_130, L_216, L_255, L_364, L_400, L_402, L_420, L_728, L_768, L_999, L_1000, L_1093, L_1872, L_2000, L_9999, L_12345, L_252645135, L_858993459, L_1103515245, L_1431655765, Lm_1, Lm_2, Lm_8]
      rw [M_in_f (by decide) ha]
      simp (disch := omega) only [L_0, L_1, L_2, L_3, L_4, L_5, L_6, L_7, L_8, L_9, L_10, L_11, L_12, L_13, L_14, L_15, L_16, L_17, L_18, L_19, L_20, L_21, L_22, L_23, L_24, L_25, L_26, L_27, L_28, L_29, L_30, L_31, L_32, L_33, L_34, L_35, L_40, L_41, L_42, L_43, L_44, L_45, L_47, L_48, L_50, L_53, L_57, L_59, L_60, L_61, L_63, L_64, L_97, L_100, L_101, L_102, L_103, L_122, L_130, L_216, L_255, L_364, L_400, L_402, L_420, L_728, L_768, L_999, L_1000, L_1093, L_1872, L_2000, L_9999, L_12345, L_252645135, L_858993459, L_1103515245, L_1431655765, Lm_1, Lm_2, Lm_8, N_zero, N_cast, N_add, N_mul, N_sub, N_addM, N_lt_tp, N_lt_fp, N_le_tp, N_le_fp, N_eq_tp, N_eq_fp, MN_ltp, MN_lep, NM_ltp, NM_lep, NM_eqp, MN_eqp, MM_lt_tp, MM_lt_fp, MM_le_tp, MM_le_fp, MM_eq_tp, MM_eq_fp, N_cl, N_in_t, N_in_f, M_in, N_div, N_rem, N_nb0, N_nb1, cond_true, cond_false, Bool.not_true, Bool.not_false, Bool.and_true, Bool.true_and, Bool.and_false, Bool.false_and, decide_true, decide_false, Option.bind_some, Option.bind_none]
      exact Ok_some ⟨rfl, Fr_refl _ _⟩
theorem c_place {h : wb_H} (I : Inv h B) : Same (fun h => q_X_place sc h) (fun h => q_M_place sc h) h B := by
  obtain ⟨T, R, v, q, s, C, D⟩ := I
  refine pure_query (a := h.1 16 0 9) C D (q_X_place_eq sc h) ?_
  show Ok (q_M_place sc h) _
  rw [q_M_place_eq]
  exact Ok_some ⟨C.2.2.2.2.2.2.2.2.2.2.2.2.1.symm, Fr_refl _ _⟩
theorem Cache_off {h h' : wb_H} {T : wT} {R : wR} {q : Nat} {L : List Nat} (D : Cache h T R q) (F : Fr L h h') (d : wb_dj [62, 64, 2014] L = true) (e : h'.1 20 0 15 = nN 0) : Cache h' T R q := by
  have g : ∀ x, wb_mem x [62, 64, 2014] = true → wb_mem x L = false := fun x hx => wb_dj_mem d hx
  obtain ⟨D1, D2, D3⟩ := D
  refine ⟨Or.inl e, fun l hl => ?_, ?_⟩
  · rw [Fr_i F (t := 62) (by exact g 62 rfl)]
    exact D2 l hl
  · rw [Fr_i F (t := 20) (k := 14) (by exact g 2014 rfl)]
    rcases D3 with d | d
    · exact Or.inl d
    · exact Or.inr ⟨(Fr_i F (by exact g 2014 rfl)).trans d.1, fun set hs gs => (Fr_i F (by exact g 64 rfl)).trans (d.2 set hs gs)⟩
theorem X_right {h : wb_H} {T : wT} {R : wR} {v q s : Nat} (C : Core h T R v q s B) (D : Cache h T R q) {p : Nat} (hp : p ≤ tn T) : Ok (q_X_meanIfPutRight sc h (nN p)) (fun r => r.1 = nN (mnA (mkA T R) p) ∧ Fr XQQ h r.2 ∧ Cache r.2 T R q) := by
  obtain ⟨e1, e2⟩ := X_ptr C
  have g1 : decide (0 < q + 1) = true := decide_eq_true (by omega)
  have hA := mkA_ok C.1 C.2.1
  rw [q_X_meanIfPutRight_eq]
  have F0 : Fr [2015] h (wb_iu h 20 0 15 (nN 0)) := Fr_iu rfl
  have C0 : Core (wb_iu h 20 0 15 (nN 0)) T R v q s B := Core_fr F0 rfl rfl rfl rfl C
  have l0 := C0.2.2.2.2.2.2.2.1.1.2.2
  simp (disch := omega) only [L_0, L_1, L_2, L_3, L_4, L_5, L_6, L_7, L_8, L_9, L_10, L_11, L_12, L_13, L_14, L_15, L_16, L_17, L_18, L_19, L_20, L_21, L_22, L_23, L_24, L_25, L_26, L_27, L_28, L_29, L_30, L_31, L_32, L_33, L_34, L_35, L_40, L_41, L_42, L_43, L_44, L_45, L_47, L_48, L_50, L_53, L_57, L_59, L_60, L_61, L_63, L_64, L_97, L_100, L_101, L_102, L_103, L_122, L_130, L_216, L_255, L_364, L_400, L_402, L_420, L_728, L_768, L_999, L_1000, L_1093, L_1872, L_2000, L_9999, L_12345, L_252645135, L_858993459, L_1103515245, L_1431655765, Lm_1, Lm_2, Lm_8, N_zero, N_cast, N_add, N_mul, N_sub, N_addM, N_lt_tp, N_lt_fp, N_le_tp, N_le_fp, N_eq_tp, N_eq_fp, MN_ltp, MN_lep, NM_ltp, NM_lep, NM_eqp, MN_eqp, MM_lt_tp, MM_lt_fp, MM_le_tp, MM_le_fp, MM_eq_tp, MM_eq_fp, N_cl, N_in_t, N_in_f, M_in, N_div, N_rem, N_nb0, N_nb1, cond_true, cond_false, Bool.not_true, Bool.not_false, Bool.and_true, Bool.true_and, Bool.and_false, Bool.false_and, decide_true, decide_false, Option.bind_some, Option.bind_none, wb_iu_2, e1, Nat.add_sub_cancel, g1, l0]
  refine Ok_bind (X_arrange C0.1 C0.2.1 C0.2.2.2.1 C0.2.2.2.2.2.2.2.1.1 C0.2.1.2.2.2.2 (by decide)) ?_
  rintro h1 ⟨F1, -, A1⟩
  rw [rwith_self] at A1
  refine Ok_bind (X_unfold hA hp A1) ?_
  rintro h2 ⟨F2, E2⟩
  rw [X_allWrong hA (XA_fr F2 rfl A1) E2]
  have F : Fr (SA ++ SX ++ [2015]) h h2 := Fr_trans (Fr_mono F0 rfl) (Fr_trans (Fr_mono F1 rfl) (Fr_mono F2 rfl))
  have e15 : h2.1 20 0 15 = nN 0 := (Fr_i F2 (by rfl)).trans ((Fr_i F1 (by rfl)).trans iu_at)
  exact Ok_some ⟨rfl, Fr_mono F rfl, Cache_off D F rfl e15⟩
theorem M_from {h : wb_H} {T : wT} {R : wR} {v q s : Nat} (C : Core h T R v q s B) {p : Nat} (hp : p ≤ tn T) : Ok (q_M_meanFrom sc h (nN p)) (fun r => r.1 = nN (mnA (mkA T R) p) ∧ Fr MQQ h r.2) := by
  rw [q_M_meanFrom_eq]
  refine Ok_bind (M_copies C) ?_
  rintro h1 ⟨F1, g1, g2, g3⟩
  have F2 : Fr [96, 1049, 1050] h (wb_iu h1 21 0 50 (nN p)) := Fr_trans F1 (Fr_iu rfl)
  have r2 : Row (wb_iu h1 21 0 50 (nN p)) 96 0 T R := Row_now C (fun i hi => by rw [iu_nt (by decide)]; exact g1 i hi)
  refine Ok_bind (M_meanRow C F2 C.2.1 r2 hp iu_at) ?_
  rintro r ⟨a, b⟩
  exact Ok_some ⟨a, b⟩
theorem c_hour {h : wb_H} (I : Inv h B) (a : Int32) {g : Nat} (hg : g ≤ 1) : Same (fun h => q_X_hour sc h a (nN g)) (fun h => q_M_hour sc h a (nN g)) h B := by
  obtain ⟨T, R, v, q, s, C, D⟩ := I
  obtain ⟨e1, e2⟩ := X_ptr C
  have g1 : decide (0 < q + 1) = true := decide_eq_true (by omega)
  have g3 : decide (q < 2) = true := decide_eq_true e2
  have hA := mkA_ok C.1 C.2.1
  have n6 := C.1.1
  have p1 := p10_le T C.1
  have p2 := p10_pos (tn T + 1)
  have f := C.2.2.2.1.2.1
  by_cases ha : hsP (tn T + 1) a
  · obtain ⟨p, hp, rfl⟩ := ha
    have hm := mnA_le hA p
    refine query (a := fr (mnA (mkA T R) p : Nat) (10 ^ (tn T + 1)) g) C ?_ ?_
    · show Ok (q_X_hour sc h (nN p) (nN g)) _
      rw [q_X_hour_eq]
      simp (disch := omega) only [L_0, L_1, L_2, L_3, L_4, L_5, L_6, L_7, L_8, L_9, L_10, L_11, L_12, L_13, L_14, L_15, L_16, L_17, L_18, L_19, L_20, L_21, L_22, L_23, L_24, L_25, L_26, L_27, L_28, L_29, L_30, L_31, L_32, L_33, L_34, L_35, L_40, L_41, L_42, L_43, L_44, L_45, L_47, L_48, L_50, L_53, L_57, L_59, L_60, L_61, L_63, L_64, L_97, L_100, L_101, L_102, L_103, L_122, L_130, L_216, L_255, L_364, L_400, L_402, L_420, L_728, L_768, L_999, L_1000, L_1093, L_1872, L_2000, L_9999, L_12345, L_252645135, L_858993459, L_1103515245, L_1431655765, Lm_1, Lm_2, Lm_8, N_zero, N_cast, N_add, N_mul, N_sub, N_addM, N_lt_tp, N_lt_fp, N_le_tp, N_le_fp, N_eq_tp, N_eq_fp, MN_ltp, MN_lep, NM_ltp, NM_lep, NM_eqp, MN_eqp, MM_lt_tp, MM_lt_fp, MM_le_tp, MM_le_fp, MM_eq_tp, MM_eq_fp, N_cl, N_in_t, N_in_f, M_in, N_div, N_rem, N_nb0, N_nb1, cond_true, cond_false, Bool.not_true, Bool.not_false, Bool.and_true, Bool.true_and, Bool.and_false, Bool.false_and, decide_true, decide_false, Option.bind_some, Option.bind_none, e1, Nat.add_sub_cancel, g1, g3, f]
      refine Ok_bind (X_right C D (by omega)) ?_
      rintro ⟨x, h1⟩ ⟨x1, F1, D1⟩
      simp only at x1 F1 D1 ⊢
      rw [x1, X_partN (CoreX C F1) (by omega) hg]
      exact Ok_some ⟨rfl, F1, D1⟩
    · intro h1 C1
      obtain ⟨a1, a2, a3, -⟩ := C1.2.2.2.2.1
      show Ok (q_M_hour sc h1 (nN p) (nN g)) _
      rw [q_M_hour_eq]
      simp (disch := omega) only [L_0, L_1, L_2, L_3, L_4, L_5, L_6, L_7, L_8, L_9, L_10, L_11, L_12, L_13, L_14, L_15, L_16, L_17, L_18, L_19, L_20, L_21, L_22, L_23, L_24, L_25, L_26, L_27, L_28, L_29, L_30, L_31, L_32, L_33, L_34, L_35, L_40, L_41, L_42, L_43, L_44, L_45, L_47, L_48, L_50, L_53, L_57, L_59, L_60, L_61, L_63, L_64, L_97, L_100, L_101, L_102, L_103, L_122, L_130, L_216, L_255, L_364, L_400, L_402, L_420, L_728, L_768, L_999, L_1000, L_1093, L_1872, L_2000, L_9999, L_12345, L_252645135, L_858993459, L_1103515245, L_1431655765, Lm_1, Lm_2, Lm_8, N_zero, N_cast, N_add, N_mul, N_sub, N_addM, N_lt_tp, N_lt_fp, N_le_tp, N_le_fp, N_eq_tp, N_eq_fp, MN_ltp, MN_lep, NM_ltp, NM_lep, NM_eqp, MN_eqp, MM_lt_tp, MM_lt_fp, MM_le_tp, MM_le_fp, MM_eq_tp, MM_eq_fp, N_cl, N_in_t, N_in_f, M_in, N_div, N_rem, N_nb0, N_nb1, cond_true, cond_false, Bool.not_true, Bool.not_false, Bool.and_true, Bool.true_and, Bool.and_false, Bool.false_and, decide_true, decide_false, Option.bind_some, Option.bind_none, a2, a3, M_in_t (sc := sc) (h := h1) (show p ≤ tn T by omega) (show tn T ≤ 2147483647 by omega)]
      refine Ok_bind (M_from C1 (by omega)) ?_
      rintro ⟨x, h2⟩ ⟨x1, F2⟩
      simp only at x1 F2 ⊢
      have M2 := (CoreM C1 F2).2.2.2.2.1
      obtain ⟨b1, b2, b3, -⟩ := M2
      have aw : q_M_allWeight sc h2 = some (nN (10 ^ (tn T + 1)), h2) := by
        have key : ∀ k j, j + k = tn T → q_M_allWeight_L5 sc h2 (nN (10 ^ (j + 1))) (nN j) = some (nN (10 ^ (tn T + 1)), h2) := by
          intro k
          induction k with
          | zero =>
            intro j hj
            rw [Nat.add_zero] at hj
            subst hj
            rw [q_M_allWeight_L5_eq]
            simp (disch := omega) only [L_0, L_1, L_2, L_3, L_4, L_5, L_6, L_7, L_8, L_9, L_10, L_11, L_12, L_13, L_14, L_15, L_16, L_17, L_18, L_19, L_20, L_21, L_22, L_23, L_24, L_25, L_26, L_27, L_28, L_29, L_30, L_31, L_32, L_33, L_34, L_35, L_40, L_41, L_42, L_43, L_44, L_45, L_47, L_48, L_50, L_53, L_57, L_59, L_60, L_61, L_63, L_64, L_97, L_100, L_101, L_102, L_103, L_122, L_130, L_216, L_255, L_364, L_400, L_402, L_420, L_728, L_768, L_999, L_1000, L_1093, L_1872, L_2000, L_9999, L_12345, L_252645135, L_858993459, L_1103515245, L_1431655765, Lm_1, Lm_2, Lm_8, N_zero, N_cast, N_add, N_mul, N_sub, N_addM, N_lt_tp, N_lt_fp, N_le_tp, N_le_fp, N_eq_tp, N_eq_fp, MN_ltp, MN_lep, NM_ltp, NM_lep, NM_eqp, MN_eqp, MM_lt_tp, MM_lt_fp, MM_le_tp, MM_le_fp, MM_eq_tp, MM_eq_fp, N_cl, N_in_t, N_in_f, M_in, N_div, N_rem, N_nb0, N_nb1, cond_true, cond_false, Bool.not_true, Bool.not_false, Bool.and_true, Bool.true_and, Bool.and_false, Bool.false_and, decide_true, decide_false, Option.bind_some, Option.bind_none, b2, b3]
          | succ k ih =>
            intro j hj
            have ih2 := ih (j + 1) (by omega)
            rw [Nat.pow_succ] at ih2
            rw [q_M_allWeight_L5_eq]
            simp (disch := omega) only [L_0, L_1, L_2, L_3, L_4, L_5, L_6, L_7, L_8, L_9, L_10, L_11, L_12, L_13, L_14, L_15, L_16, L_17, L_18, L_19, L_20, L_21, L_22, L_23, L_24, L_25, L_26, L_27, L_28, L_29, L_30, L_31, L_32, L_33, L_34, L_35, L_40, L_41, L_42, L_43, L_44, L_45, L_47, L_48, L_50, L_53, L_57, L_59, L_60, L_61, L_63, L_64, L_97, L_100, L_101, L_102, L_103, L_122, L_130, L_216, L_255, L_364, L_400, L_402, L_420, L_728, L_768, L_999, L_1000, L_1093, L_1872, L_2000, L_9999, L_12345, L_252645135, L_858993459, L_1103515245, L_1431655765, Lm_1, Lm_2, Lm_8, N_zero, N_cast, N_add, N_mul, N_sub, N_addM, N_lt_tp, N_lt_fp, N_le_tp, N_le_fp, N_eq_tp, N_eq_fp, MN_ltp, MN_lep, NM_ltp, NM_lep, NM_eqp, MN_eqp, MM_lt_tp, MM_lt_fp, MM_le_tp, MM_le_fp, MM_eq_tp, MM_eq_fp, N_cl, N_in_t, N_in_f, M_in, N_div, N_rem, N_nb0, N_nb1, cond_true, cond_false, Bool.not_true, Bool.not_false, Bool.and_true, Bool.true_and, Bool.and_false, Bool.false_and, decide_true, decide_false, Option.bind_some, Option.bind_none, b2, b3]
            exact ih2
        rw [q_M_allWeight_eq]
        exact key (tn T) 0 (Nat.zero_add _)
      rw [aw]
      simp only [Option.bind_some]
      rw [x1, M_lineN (by omega) p2 (by omega) hg]
      exact Ok_some ⟨rfl, F2⟩
  · refine pure_query (a := nM 1) C D ?_ ?_
    · show q_X_hour sc h a (nN g) = _
      rw [q_X_hour_eq]
      rcases NM_all a with ⟨k, rfl, hk⟩ | ⟨k, rfl, hk1, hk2⟩
      · have : ¬ k < tn T + 1 := fun t => ha ⟨k, t, rfl⟩
        simp (disch := omega) only [L_0, L_1, L_2, L_3, L_4, L_5, L_6, L_7, L_8, L_9, L_10, L_11, L_12, L_13, L_14, L_15, L_16, L_17, L_18, L_19, L_20, L_21, L_22, L_23, L_24, L_25, L_26, L_27, L_28, L_29, L_30, L_31, L_32, L_33, L_34, L_35, L_40, L_41, L_42, L_43, L_44, L_45, L_47, L_48, L_50, L_53, L_57, L_59, L_60, L_61, L_63, L_64, L_97, L_100, L_101, L_102, L_103, L_122, L_130, L_216, L_255, L_364, L_400, L_402, L_420, L_728, L_768, L_999, L_1000, L_1093, L_1872, L_2000, L_9999, L_12345, L_252645135, L_858993459, L_1103515245, L_1431655765, Lm_1, Lm_2, Lm_8, N_zero, N_cast, N_add, N_mul, N_sub, N_addM, N_lt_tp, N_lt_fp, N_le_tp, N_le_fp, N_eq_tp, N_eq_fp, MN_ltp, MN_lep, NM_ltp, NM_lep, NM_eqp, MN_eqp, MM_lt_tp, MM_lt_fp, MM_le_tp, MM_le_fp, MM_eq_tp, MM_eq_fp, N_cl, N_in_t, N_in_f, M_in, N_div, N_rem, N_nb0, N_nb1, cond_true, cond_false, Bool.not_true, Bool.not_false, Bool.and_true, Bool.true_and, Bool.and_false, Bool.false_and, decide_true, decide_false, Option.bind_some, Option.bind_none, e1, Nat.add_sub_cancel, g1, g3, f]
      · simp (disch := omega) only [L_0, L_1, L_2, L_3, L_4, L_5, L_6, L_7, L_8, L_9, L_10, L_11, L_12, L_13, L_14, L_15, L_16, L_17, L_18, L_19, L_20, L_21, L_22, L_23, L_24, L_25, L_26, L_27, L_28, L_29, L_30, L_31, L_32, L_33, L_34, L_35, L_40, L_41, L_42, L_43, L_44, L_45, L_47, L_48, L_50, L_53, L_57, L_59, L_60, L_61, L_63, L_64, L_97, L_100, L_101, L_102, L_103, L_122, L_130, L_216, L_255, L_364, L_400, L_402, L_420, L_728, L_768, L_999, L_1000, L_1093, L_1872, L_2000, L_9999, L_12345, L_252645135, L_858993459, L_1103515245, L_1431655765, Lm_1, Lm_2, Lm_8, N_zero, N_cast, N_add, N_mul, N_sub, N_addM, N_lt_tp, N_lt_fp, N_le_tp, N_le_fp, N_eq_tp, N_eq_fp, MN_ltp, MN_lep, NM_ltp, NM_lep, NM_eqp, MN_eqp, MM_lt_tp, MM_lt_fp, MM_le_tp, MM_le_fp, MM_eq_tp, MM_eq_fp, N_cl, N_in_t, N_in_f, M_in, N_div, N_rem, N_nb0, N_nb1, cond_true, cond_false, Bool.not_true, Bool.not_false, Bool.and_true, Bool.true_and, Bool.and_false, Bool.false_and, decide_true, decide_false, Option.bind_some, Option.bind_none]
    · obtain ⟨a1, a2, a3, -⟩ := C.2.2.2.2.1
      show Ok (q_M_hour sc h a (nN g)) _
      rw [q_M_hour_eq]
      simp (disch := omega) only [L_0, L_1, L_2, L_3, L_4, L_5, L_6, L_7, L_8, L_9, L_10, L_11, L_12, L_13, L_14, L_15, L_16, L_17, L_18, L_19, L_20, L_21, L_22, L_23, L_24, L_25, L_26, L_27, L_28, L_29, L_30, L_31, L_32, L_33, L_34, L_35, L_40, L_41, L_42, L_43, L_44, L_45, L_47, L_48, L_50, L_53, L_57, L_59, L_60, L_61, L_63, L_64, L_97, L_100, L_101, L_102, L_103, L_122, L_130, L_216, L_255, L_364, L_400, L_402, L_420, L_728, L_768, L_999, L_1000, L_1093, L_1872, L_2000, L_9999, L_12345, L_252645135, L_858993459, L_1103515245, L_1431655765, Lm_1, Lm_2, Lm_8, N_zero, N_cast, N_add, N_mul, N_sub, N_addM, N_lt_tp, N_lt_fp, N_le_tp, N_le_fp, N_eq_tp, N_eq_fp, MN_ltp, MN_lep, NM_ltp, NM_lep, NM_eqp, MN_eqp, MM_lt_tp, MM_lt_fp, MM_le_tp, MM_le_fp, MM_eq_tp, MM_eq_fp, N_cl, N_in_t, N_in_f, M_in, N_div, N_rem, N_nb0, N_nb1, cond_true, cond_false, Bool.not_true, Bool.not_false, Bool.and_true, Bool.true_and, Bool.and_false, Bool.false_and, decide_true, decide_false, Option.bind_some, Option.bind_none, a2, a3, M_in_f (sc := sc) (h := h) (show tn T ≤ 2147483647 by omega) ha]
      exact Ok_some ⟨rfl, Fr_refl _ _⟩
def bestF (f : Nat → Nat) : Nat → Nat
  | 0 => 0
  | k + 1 => if f (k + 1) < f (bestF f k) then k + 1 else bestF f k
theorem bestF_le (f : Nat → Nat) : ∀ k, bestF f k ≤ k
  | 0 => Nat.le_refl _
  | k + 1 => by have := bestF_le f k; rw [bestF]; split <;> omega
theorem c_bestHour {h : wb_H} (I : Inv h B) : Same (fun h => q_X_bestHour sc h) (fun h => q_M_bestHour sc h) h B := by
  obtain ⟨T, R, v, q, s, C, D⟩ := I
  obtain ⟨e1, e2⟩ := X_ptr C
  have g1 : decide (0 < q + 1) = true := decide_eq_true (by omega)
  have g3 : decide (q < 2) = true := decide_eq_true e2
  have hA := mkA_ok C.1 C.2.1
  have n6 := C.1.1
  refine query (a := nN (bestF (mnA (mkA T R)) (tn T))) C ?_ ?_
  · have key : ∀ k j, j + k = tn T → ∀ h', Fr XQQ h h' → Cache h' T R q → Ok (q_X_bestHour_L10 sc h' (nN (bestF (mnA (mkA T R)) j)) (nN (mnA (mkA T R) (bestF (mnA (mkA T R)) j))) (nN (j + 1))) (fun r => r.1 = nN (bestF (mnA (mkA T R)) (tn T)) ∧ Fr XQQ h r.2 ∧ Cache r.2 T R q) := by
      intro k
      induction k with
      | zero =>
        intro j hj h' F' D'
        rw [Nat.add_zero] at hj
        subst hj
        have C' := CoreX C F'
        obtain ⟨e1, e2⟩ := X_ptr C'
        have f := C'.2.2.2.1.2.1
        rw [q_X_bestHour_L10_eq]
        simp (disch := omega) only [L_0, L_1, L_2, L_3, L_4, L_5, L_6, L_7, L_8, L_9, L_10, L_11, L_12, L_13, L_14, L_15, L_16, L_17, L_18, L_19, L_20, L_21, L_22, L_23, L_24, L_25, L_26, L_27, L_28, L_29, L_30, L_31, L_32, L_33, L_34, L_35, L_40, L_41, L_42, L_43, L_44, L_45, L_47, L_48, L_50, L_53, L_57, L_59, L_60, L_61, L_63, L_64, L_97, L_100, L_101, L_102, L_103, L_122, L_130, L_216, L_255, L_364, L_400, L_402, L_420, L_728, L_768, L_999, L_1000, L_1093, L_1872, L_2000, L_9999, L_12345, L_252645135, L_858993459, L_1103515245, L_1431655765, Lm_1, Lm_2, Lm_8, N_zero, N_cast, N_add, N_mul, N_sub, N_addM, N_lt_tp, N_lt_fp, N_le_tp, N_le_fp, N_eq_tp, N_eq_fp, MN_ltp, MN_lep, NM_ltp, NM_lep, NM_eqp, MN_eqp, MM_lt_tp, MM_lt_fp, MM_le_tp, MM_le_fp, MM_eq_tp, MM_eq_fp, N_cl, N_in_t, N_in_f, M_in, N_div, N_rem, N_nb0, N_nb1, cond_true, cond_false, Bool.not_true, Bool.not_false, Bool.and_true, Bool.true_and, Bool.and_false, Bool.false_and, decide_true, decide_false, Option.bind_some, Option.bind_none, e1, Nat.add_sub_cancel, g1, g3, f]
        exact Ok_some ⟨rfl, F', D'⟩
      | succ k ih =>
        intro j hj h' F' D'
        have C' := CoreX C F'
        obtain ⟨e1, e2⟩ := X_ptr C'
        have f := C'.2.2.2.1.2.1
        rw [q_X_bestHour_L10_eq]
        simp (disch := omega) only [L_0, L_1, L_2, L_3, L_4, L_5, L_6, L_7, L_8, L_9, L_10, L_11, L_12, L_13, L_14, L_15, L_16, L_17, L_18, L_19, L_20, L_21, L_22, L_23, L_24, L_25, L_26, L_27, L_28, L_29, L_30, L_31, L_32, L_33, L_34, L_35, L_40, L_41, L_42, L_43, L_44, L_45, L_47, L_48, L_50, L_53, L_57, L_59, L_60, L_61, L_63, L_64, L_97, L_100, L_101, L_102, L_103, L_122, L_130, L_216, L_255, L_364, L_400, L_402, L_420, L_728, L_768, L_999, L_1000, L_1093, L_1872, L_2000, L_9999, L_12345, L_252645135, L_858993459, L_1103515245, L_1431655765, Lm_1, Lm_2, Lm_8, N_zero, N_cast, N_add, N_mul, N_sub, N_addM, N_lt_tp, N_lt_fp, N_le_tp, N_le_fp, N_eq_tp, N_eq_fp, MN_ltp, MN_lep, NM_ltp, NM_lep, NM_eqp, MN_eqp, MM_lt_tp, MM_lt_fp, MM_le_tp, MM_le_fp, MM_eq_tp, MM_eq_fp, N_cl, N_in_t, N_in_f, M_in, N_div, N_rem, N_nb0, N_nb1, cond_true, cond_false, Bool.not_true, Bool.not_false, Bool.and_true, Bool.true_and, Bool.and_false, Bool.false_and, decide_true, decide_false, Option.bind_some, Option.bind_none, e1, Nat.add_sub_cancel, g1, g3, f]
        refine Ok_bind (X_right C' D' (by omega)) ?_
        rintro ⟨x, h1⟩ ⟨x1, F1, D1⟩
        simp only at x1 F1 D1 ⊢
        have m1 := mnA_le hA (j + 1)
        have m2 := mnA_le hA (bestF (mnA (mkA T R)) j)
        have ih2 := ih (j + 1) (by omega) h1 (Fr_trans F' F1) D1
        rw [bestF] at ih2
        rw [x1]
        by_cases z : mnA (mkA T R) (j + 1) < mnA (mkA T R) (bestF (mnA (mkA T R)) j)
        · rw [if_pos z] at ih2
          rw [N_le_f z (by omega)]
          exact ih2
        · rw [if_neg z] at ih2
          rw [N_le_t (by omega) (by omega)]
          exact ih2
    show Ok (q_X_bestHour sc h) _
    rw [q_X_bestHour_eq]
    simp only [L_0, L_1, L_2, L_3, L_4, L_5, L_6, L_7, L_8, L_9, L_10, L_11, L_12, L_13, L_14, L_15, L_16, L_17, L_18, L_19, L_20, L_21, L_22, L_23, L_24, L_25, L_26, L_27, L_28, L_29, L_30, L_31, L_32, L_33, L_34, L_35, L_40, L_41, L_42, L_43, L_44, L_45, L_47, L_48, L_50, L_53, L_57, L_59, L_60, L_61, L_63, L_64, L_97, L_100, L_101, L_102, L_103, L_122, L_130, L_216, L_255, L_364, L_400, L_402, L_420, L_728, L_768, L_999, L_1000, L_1093, L_1872, L_2000, L_9999, L_12345, L_252645135, L_858993459, L_1103515245, L_1431655765, Lm_1, Lm_2, Lm_8]
    refine Ok_bind (X_right C D (Nat.zero_le _)) ?_
    rintro ⟨x, h1⟩ ⟨x1, F1, D1⟩
    simp only at x1 F1 D1 ⊢
    rw [x1]
    exact key (tn T) 0 (Nat.zero_add _) h1 F1 D1
  · intro h0 C0
    have key : ∀ k j, j + k = tn T → ∀ h', Fr MQQ h0 h' → Ok (q_M_bestHour_L4 sc h' (nN (bestF (mnA (mkA T R)) j)) (nN (j + 1))) (fun r => r.1 = nN (bestF (mnA (mkA T R)) (tn T)) ∧ Fr MQQ h0 r.2) := by
      intro k
      induction k with
      | zero =>
        intro j hj h' F'
        rw [Nat.add_zero] at hj
        subst hj
        obtain ⟨a1, a2, a3, -⟩ := (CoreM C0 F').2.2.2.2.1
        rw [q_M_bestHour_L4_eq]
        simp (disch := omega) only [L_0, L_1, L_2, L_3, L_4, L_5, L_6, L_7, L_8, L_9, L_10, L_11, L_12, L_13, L_14, L_15, L_16, L_17, L_18, L_19, L_20, L_21, L_22, L_23, L_24, L_25, L_26, L_27, L_28, L_29, L_30, L_31, L_32, L_33, L_34, L_35, L_40, L_41, L_42, L_43, L_44, L_45, L_47, L_48, L_50, L_53, L_57, L_59, L_60, L_61, L_63, L_64, L_97, L_100, L_101, L_102, L_103, L_122, L_130, L_216, L_255, L_364, L_400, L_402, L_420, L_728, L_768, L_999, L_1000, L_1093, L_1872, L_2000, L_9999, L_12345, L_252645135, L_858993459, L_1103515245, L_1431655765, Lm_1, Lm_2, Lm_8, N_zero, N_cast, N_add, N_mul, N_sub, N_addM, N_lt_tp, N_lt_fp, N_le_tp, N_le_fp, N_eq_tp, N_eq_fp, MN_ltp, MN_lep, NM_ltp, NM_lep, NM_eqp, MN_eqp, MM_lt_tp, MM_lt_fp, MM_le_tp, MM_le_fp, MM_eq_tp, MM_eq_fp, N_cl, N_in_t, N_in_f, M_in, N_div, N_rem, N_nb0, N_nb1, cond_true, cond_false, Bool.not_true, Bool.not_false, Bool.and_true, Bool.true_and, Bool.and_false, Bool.false_and, decide_true, decide_false, Option.bind_some, Option.bind_none, a2, a3]
        exact Ok_some ⟨rfl, F'⟩
      | succ k ih =>
        intro j hj h' F'
        have C' := CoreM C0 F'
        obtain ⟨a1, a2, a3, -⟩ := C'.2.2.2.2.1
        rw [q_M_bestHour_L4_eq]
        simp (disch := omega) only [L_0, L_1, L_2, L_3, L_4, L_5, L_6, L_7, L_8, L_9, L_10, L_11, L_12, L_13, L_14, L_15, L_16, L_17, L_18, L_19, L_20, L_21, L_22, L_23, L_24, L_25, L_26, L_27, L_28, L_29, L_30, L_31, L_32, L_33, L_34, L_35, L_40, L_41, L_42, L_43, L_44, L_45, L_47, L_48, L_50, L_53, L_57, L_59, L_60, L_61, L_63, L_64, L_97, L_100, L_101, L_102, L_103, L_122, L_130, L_216, L_255, L_364, L_400, L_402, L_420, L_728, L_768, L_999, L_1000, L_1093, L_1872, L_2000, L_9999, L_12345, L_252645135, L_858993459, L_1103515245, L_1431655765, Lm_1, Lm_2, Lm_8, N_zero, N_cast, N_add, N_mul, N_sub, N_addM, N_lt_tp, N_lt_fp, N_le_tp, N_le_fp, N_eq_tp, N_eq_fp, MN_ltp, MN_lep, NM_ltp, NM_lep, NM_eqp, MN_eqp, MM_lt_tp, MM_lt_fp, MM_le_tp, MM_le_fp, MM_eq_tp, MM_eq_fp, N_cl, N_in_t, N_in_f, M_in, N_div, N_rem, N_nb0, N_nb1, cond_true, cond_false, Bool.not_true, Bool.not_false, Bool.and_true, Bool.true_and, Bool.and_false, Bool.false_and, decide_true, decide_false, Option.bind_some, Option.bind_none, a2, a3]
        refine Ok_bind (M_from C' (by omega)) ?_
        rintro ⟨x, h1⟩ ⟨x1, F1⟩
        simp only at x1 F1 ⊢
        have bl := bestF_le (mnA (mkA T R)) j
        refine Ok_bind (M_from (CoreM C' F1) (by omega)) ?_
        rintro ⟨y, h2⟩ ⟨y1, F2⟩
        simp only at y1 F2 ⊢
        have m1 := mnA_le hA (j + 1)
        have m2 := mnA_le hA (bestF (mnA (mkA T R)) j)
        have ih2 := ih (j + 1) (by omega) h2 (Fr_trans F' (Fr_trans F1 F2))
        rw [bestF] at ih2
        rw [x1, y1]
        by_cases z : mnA (mkA T R) (j + 1) < mnA (mkA T R) (bestF (mnA (mkA T R)) j)
        · rw [if_pos z] at ih2
          rw [N_le_f z (by omega)]
          exact ih2
        · rw [if_neg z] at ih2
          rw [N_le_t (by omega) (by omega)]
          exact ih2
    show Ok (q_M_bestHour sc h0) _
    rw [q_M_bestHour_eq]
    exact key (tn T) 0 (Nat.zero_add _) h0 (Fr_refl _ _)
end
