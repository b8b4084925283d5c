/-! Tokens: words and numerals, on both sides. -/
theorem lg_ne {a b : Int64} (h : a ≠ b) : (lg_cmp a b = nN 0) = False := eq_false (by
  intro q
  unfold lg_cmp at q
  rw [if_neg h] at q
  split at q
  · exact absurd q (by decide)
  · exact absurd q (by decide))
theorem lg_self (a : Int64) : (lg_cmp a a = nN 0) = True := eq_true (by
  unfold lg_cmp
  rw [if_neg (show ¬ a > a from Int64.lt_irrefl), if_pos rfl]
  rfl)
/-- a word's number -/
def wvz (b : Nat → Nat) (i : Nat) : Nat → Int
  | 0 => 0
  | j + 1 => 27 * wvz b i j + (b (i + j) : Int) - 96
def kxF (v : Int64) : Nat → Nat → Nat
  | 0, _ => 100
  | r + 1, k => if xw k = v then k else kxF v r (k + 1)
def kmF (v : Int64) : Nat → Nat → Nat → Nat
  | 0, _, a => a
  | r + 1, k, a => kmF v r (k + 1) (if mk k = v then 20 + k else a)
section
variable {sc : wb_X}
theorem X_kindOf {h : wb_H} (hk : ∀ k, k < 22 → h.2.1 56 0 k = xw k) (v : Int64) : q_Tokens_kindOf sc h v = some (nN (kxF v 22 0), h) := by
  have key : ∀ r k, k + r = 22 → q_Tokens_kindOf_L2 sc h v (nN k) = some (nN (kxF v r k), h) := by
    intro r
    induction r with
    | zero =>
      intro k e
      rw [Nat.add_zero] at e
      subst e
      rw [q_Tokens_kindOf_L2_eq, kxF]
      simp (disch := omega) only [L_0, L_1, L_2, L_3, L_4, L_5, L_6, L_7, L_8, L_9, L_10, L_11, L_12, L_13, L_14, L_15, L_16, L_17, L_18, L_19, L_20, L_21, L_22, L_23, L_24, L_25, L_26, L_27, L_28, L_29, L_30, L_31, L_32, L_33, L_34, L_35, L_40, L_41, L_42, L_43, L_44, L_45, L_47, L_48, L_50, L_53, L_57, L_59, L_60, L_61, L_63, L_64, L_97, L_100, L_101, L_102, L_103, L_122, L_130, L_216, L_255, L_364, L_400, L_402, L_420, L_728, L_768, L_999, L_1000, L_1093, L_1872, L_2000, L_9999, L_12345, L_252645135, L_858993459, L_1103515245, L_1431655765, Lm_1, Lm_2, Lm_8, N_zero, N_cast, N_add, N_mul, N_sub, N_addM, N_lt_tp, N_lt_fp, N_le_tp, N_le_fp, N_eq_tp, N_eq_fp, MN_ltp, MN_lep, NM_ltp, NM_lep, NM_eqp, MN_eqp, MM_lt_tp, MM_lt_fp, MM_le_tp, MM_le_fp, MM_eq_tp, MM_eq_fp, N_cl, N_in_t, N_in_f, M_in, N_div, N_rem, N_nb0, N_nb1, cond_true, cond_false, Bool.not_true, Bool.not_false, Bool.and_true, Bool.true_and, Bool.and_false, Bool.false_and, decide_true, decide_false, Option.bind_some, Option.bind_none]
    | succ r ih =>
      intro k e
      have hk1 := hk k (by omega)
      rw [q_Tokens_kindOf_L2_eq, kxF]
      by_cases z : xw k = v
      · rw [if_pos z]
        simp (disch := omega) only [L_0, L_1, L_2, L_3, L_4, L_5, L_6, L_7, L_8, L_9, L_10, L_11, L_12, L_13, L_14, L_15, L_16, L_17, L_18, L_19, L_20, L_21, L_22, L_23, L_24, L_25, L_26, L_27, L_28, L_29, L_30, L_31, L_32, L_33, L_34, L_35, L_40, L_41, L_42, L_43, L_44, L_45, L_47, L_48, L_50, L_53, L_57, L_59, L_60, L_61, L_63, L_64, L_97, L_100, L_101, L_102, L_103, L_122, L_130, L_216, L_255, L_364, L_400, L_402, L_420, L_728, L_768, L_999, L_1000, L_1093, L_1872, L_2000, L_9999, L_12345, L_252645135, L_858993459, L_1103515245, L_1431655765, Lm_1, Lm_2, Lm_8, N_zero, N_cast, N_add, N_mul, N_sub, N_addM, N_lt_tp, N_lt_fp, N_le_tp, N_le_fp, N_eq_tp, N_eq_fp, MN_ltp, MN_lep, NM_ltp, NM_lep, NM_eqp, MN_eqp, MM_lt_tp, MM_lt_fp, MM_le_tp, MM_le_fp, MM_eq_tp, MM_eq_fp, N_cl, N_in_t, N_in_f, M_in, N_div, N_rem, N_nb0, N_nb1, cond_true, cond_false, Bool.not_true, Bool.not_false, Bool.and_true, Bool.true_and, Bool.and_false, Bool.false_and, decide_true, decide_false, Option.bind_some, Option.bind_none, hk1, z, lg_self]
      · rw [if_neg z]
        simp (disch := omega) only [L_0, L_1, L_2, L_3, L_4, L_5, L_6, L_7, L_8, L_9, L_10, L_11, L_12, L_13, L_14, L_15, L_16, L_17, L_18, L_19, L_20, L_21, L_22, L_23, L_24, L_25, L_26, L_27, L_28, L_29, L_30, L_31, L_32, L_33, L_34, L_35, L_40, L_41, L_42, L_43, L_44, L_45, L_47, L_48, L_50, L_53, L_57, L_59, L_60, L_61, L_63, L_64, L_97, L_100, L_101, L_102, L_103, L_122, L_130, L_216, L_255, L_364, L_400, L_402, L_420, L_728, L_768, L_999, L_1000, L_1093, L_1872, L_2000, L_9999, L_12345, L_252645135, L_858993459, L_1103515245, L_1431655765, Lm_1, Lm_2, Lm_8, N_zero, N_cast, N_add, N_mul, N_sub, N_addM, N_lt_tp, N_lt_fp, N_le_tp, N_le_fp, N_eq_tp, N_eq_fp, MN_ltp, MN_lep, NM_ltp, NM_lep, NM_eqp, MN_eqp, MM_lt_tp, MM_lt_fp, MM_le_tp, MM_le_fp, MM_eq_tp, MM_eq_fp, N_cl, N_in_t, N_in_f, M_in, N_div, N_rem, N_nb0, N_nb1, cond_true, cond_false, Bool.not_true, Bool.not_false, Bool.and_true, Bool.true_and, Bool.and_false, Bool.false_and, decide_true, decide_false, Option.bind_some, Option.bind_none, hk1, lg_ne z]
        exact ih (k + 1) (by omega)
  rw [q_Tokens_kindOf_eq]
  exact key 22 0 rfl
theorem M_search {h : wb_H} (hk : ∀ k, k < 22 → h.2.1 71 0 k = mk k) {c i K : Nat} (hc : c ≤ 402) (h10 : h.1 21 0 10 = nN c) (v : Int64) {P : wb_H → Prop} : ∀ r k a, k + r = 22 → (∀ h', tkM h h' c (nN (kmF v r k a)) (nN i) (nN 0) v → Ok (q_M_cut_L7 sc h' (nN (i + K))) P) → Ok (q_M_cut_L146 sc h (nN i) (nN K) v (nN a) (nN k)) P := by
  intro r
  induction r with
  | zero =>
    intro k a e hP
    rw [Nat.add_zero] at e
    subst e
    rw [q_M_cut_L146_eq]
    simp (disch := omega) only [L_0, L_1, L_2, L_3, L_4, L_5, L_6, L_7, L_8, L_9, L_10, L_11, L_12, L_13, L_14, L_15, L_16, L_17, L_18, L_19, L_20, L_21, L_22, L_23, L_24, L_25, L_26, L_27, L_28, L_29, L_30, L_31, L_32, L_33, L_34, L_35, L_40, L_41, L_42, L_43, L_44, L_45, L_47, L_48, L_50, L_53, L_57, L_59, L_60, L_61, L_63, L_64, L_97, L_100, L_101, L_102, L_103, L_122, L_130, L_216, L_255, L_364, L_400, L_402, L_420, L_728, L_768, L_999, L_1000, L_1093, L_1872, L_2000, L_9999, L_12345, L_252645135, L_858993459, L_1103515245, L_1431655765, Lm_1, Lm_2, Lm_8, N_zero, N_cast, N_add, N_mul, N_sub, N_addM, N_lt_tp, N_lt_fp, N_le_tp, N_le_fp, N_eq_tp, N_eq_fp, MN_ltp, MN_lep, NM_ltp, NM_lep, NM_eqp, MN_eqp, MM_lt_tp, MM_lt_fp, MM_le_tp, MM_le_fp, MM_eq_tp, MM_eq_fp, N_cl, N_in_t, N_in_f, M_in, N_div, N_rem, N_nb0, N_nb1, cond_true, cond_false, Bool.not_true, Bool.not_false, Bool.and_true, Bool.true_and, Bool.and_false, Bool.false_and, decide_true, decide_false, Option.bind_some, Option.bind_none]
    refine Ok_bind (M_token hc h10 _ _ _ _) ?_
    intro h' H
    exact hP h' H
  | succ r ih =>
    intro k a e hP
    have hk1 := hk k (by omega)
    rw [kmF] at hP
    rw [q_M_cut_L146_eq]
    by_cases z : mk k = v
    · rw [if_pos z] at hP
      simp (disch := omega) only [L_0, L_1, L_2, L_3, L_4, L_5, L_6, L_7, L_8, L_9, L_10, L_11, L_12, L_13, L_14, L_15, L_16, L_17, L_18, L_19, L_20, L_21, L_22, L_23, L_24, L_25, L_26, L_27, L_28, L_29, L_30, L_31, L_32, L_33, L_34, L_35, L_40, L_41, L_42, L_43, L_44, L_45, L_47, L_48, L_50, L_53, L_57, L_59, L_60, L_61, L_63, L_64, L_97, L_100, L_101, L_102, L_103, L_122, L_130, L_216, L_255, L_364, L_400, L_402, L_420, L_728, L_768, L_999, L_1000, L_1093, L_1872, L_2000, L_9999, L_12345, L_252645135, L_858993459, L_1103515245, L_1431655765, Lm_1, Lm_2, Lm_8, N_zero, N_cast, N_add, N_mul, N_sub, N_addM, N_lt_tp, N_lt_fp, N_le_tp, N_le_fp, N_eq_tp, N_eq_fp, MN_ltp, MN_lep, NM_ltp, NM_lep, NM_eqp, MN_eqp, MM_lt_tp, MM_lt_fp, MM_le_tp, MM_le_fp, MM_eq_tp, MM_eq_fp, N_cl, N_in_t, N_in_f, M_in, N_div, N_rem, N_nb0, N_nb1, cond_true, cond_false, Bool.not_true, Bool.not_false, Bool.and_true, Bool.true_and, Bool.and_false, Bool.false_and, decide_true, decide_false, Option.bind_some, Option.bind_none, hk1, z, lg_self]
      exact ih (k + 1) (20 + k) (by omega) hP
    · rw [if_neg z] at hP
      simp (disch := omega) only [L_0, L_1, L_2, L_3, L_4, L_5, L_6, L_7, L_8, L_9, L_10, L_11, L_12, L_13, L_14, L_15, L_16, L_17, L_18, L_19, L_20, L_21, L_22, L_23, L_24, L_25, L_26, L_27, L_28, L_29, L_30, L_31, L_32, L_33, L_34, L_35, L_40, L_41, L_42, L_43, L_44, L_45, L_47, L_48, L_50, L_53, L_57, L_59, L_60, L_61, L_63, L_64, L_97, L_100, L_101, L_102, L_103, L_122, L_130, L_216, L_255, L_364, L_400, L_402, L_420, L_728, L_768, L_999, L_1000, L_1093, L_1872, L_2000, L_9999, L_12345, L_252645135, L_858993459, L_1103515245, L_1431655765, Lm_1, Lm_2, Lm_8, N_zero, N_cast, N_add, N_mul, N_sub, N_addM, N_lt_tp, N_lt_fp, N_le_tp, N_le_fp, N_eq_tp, N_eq_fp, MN_ltp, MN_lep, NM_ltp, NM_lep, NM_eqp, MN_eqp, MM_lt_tp, MM_lt_fp, MM_le_tp, MM_le_fp, MM_eq_tp, MM_eq_fp, N_cl, N_in_t, N_in_f, M_in, N_div, N_rem, N_nb0, N_nb1, cond_true, cond_false, Bool.not_true, Bool.not_false, Bool.and_true, Bool.true_and, Bool.and_false, Bool.false_and, decide_true, decide_false, Option.bind_some, Option.bind_none, hk1, lg_ne z]
      exact ih (k + 1) a (by omega) hP
theorem X_cutWord {h : wb_H} {c t i : Nat} (hk : ∀ k, k < 22 → h.2.1 56 0 k = xw k) (hc : c ≤ 401) (h4 : h.1 19 0 4 = nN c) (ht : t ≤ 2000) (h1 : h.1 18 0 1 = nN t) (hi : i < t) : Ok (q_Tokens_cutWord sc h (nN i)) (fun r => (run isL (txt (h.1 55 0) t) (t - i) i ≤ 8 → r.1 = nN (i + run isL (txt (h.1 55 0) t) (t - i) i) ∧ tkX h r.2 c (nN (kxF (Int64.ofInt (wvz (txt (h.1 55 0) t) i (run isL (txt (h.1 55 0) t) (t - i) i))) 22 0)) (nN i) (Int64.ofInt (wvz (txt (h.1 55 0) t) i (run isL (txt (h.1 55 0) t) (t - i) i)))) ∧ (¬ run isL (txt (h.1 55 0) t) (t - i) i ≤ 8 → r.1 = nN t ∧ tkX h r.2 c (nN 102) (nN i) (Int64.ofNat 0))) := by
  have hz : isL (txt (h.1 55 0) t t) ≠ 1 := by rw [txt_end]; decide
  obtain ⟨r1, r2, r3⟩ := run_spec (g := isL) (b := txt (h.1 55 0) t) hz (t - i) i (by omega)
  generalize run isL (txt (h.1 55 0) t) (t - i) i = K at *
  have key : ∀ r j, j + r = K → Ok (q_Tokens_cutWord_L5 sc h (nN i) (nN (i + j)) (Int64.ofInt (wvz (txt (h.1 55 0) t) i j))) (fun r => (K ≤ 8 → r.1 = nN (i + K) ∧ tkX h r.2 c (nN (kxF (Int64.ofInt (wvz (txt (h.1 55 0) t) i K)) 22 0)) (nN i) (Int64.ofInt (wvz (txt (h.1 55 0) t) i K))) ∧ (¬ K ≤ 8 → r.1 = nN t ∧ tkX h r.2 c (nN 102) (nN i) (Int64.ofNat 0))) := by
    intro r
    induction r with
    | zero =>
      intro j hj
      rw [Nat.add_zero] at hj
      subst hj
      rw [q_Tokens_cutWord_L5_eq]
      have fin : ∀ (x : Option (Int32 × wb_H)), x = (bif decide (nN (i + j) - nN i ≤ nN 8) then ((q_Tokens_kindOf sc h (Int64.ofInt (wvz (txt (h.1 55 0) t) i j))).bind fun r1 => ((q_Tokens_add sc r1.2 r1.1 (nN i) (Int64.ofInt (wvz (txt (h.1 55 0) t) i j))).bind fun h2 => some (nN (i + j), h2))) else ((q_Tokens_cutNoToken sc h (nN i)).bind fun r2 => some (r2.1, r2.2))) → Ok x (fun r => (j ≤ 8 → r.1 = nN (i + j) ∧ tkX h r.2 c (nN (kxF (Int64.ofInt (wvz (txt (h.1 55 0) t) i j)) 22 0)) (nN i) (Int64.ofInt (wvz (txt (h.1 55 0) t) i j))) ∧ (¬ j ≤ 8 → r.1 = nN t ∧ tkX h r.2 c (nN 102) (nN i) (Int64.ofNat 0))) := by
        intro x hx
        subst hx
        rw [N_sub (by omega), Nat.add_sub_cancel_left]
        by_cases z : j ≤ 8
        · rw [N_le_t z (by decide), X_kindOf hk]
          refine Ok_bind (X_add hc h4 _ _ _) ?_
          intro h' H
          exact Ok_some ⟨fun _ => ⟨rfl, H⟩, fun y => absurd z y⟩
        · rw [N_le_f (by omega) (by omega)]
          refine Ok_bind (X_noTok hc h4 h1 _) ?_
          intro r H
          exact Ok_some ⟨fun y => absurd y z, fun _ => H⟩
      by_cases z : t ≤ i + j
      · simp (disch := omega) only [L_0, L_1, L_2, L_3, L_4, L_5, L_6, L_7, L_8, L_9, L_10, L_11, L_12, L_13, L_14, L_15, L_16, L_17, L_18, L_19, L_20, L_21, L_22, L_23, L_24, L_25, L_26, L_27, L_28, L_29, L_30, L_31, L_32, L_33, L_34, L_35, L_40, L_41, L_42, L_43, L_44, L_45, L_47, L_48, L_50, L_53, L_57, L_59, L_60, L_61, L_63, L_64, L_97, L_100, L_101, L_102, L_103, L_122, L_130, L_216, L_255, L_364, L_400, L_402, L_420, L_728, L_768, L_999, L_1000, L_1093, L_1872, L_2000, L_9999, L_12345, L_252645135, L_858993459, L_1103515245, L_1431655765, Lm_1, Lm_2, Lm_8, N_le_tp, cond_true, cond_false, Bool.not_true, Bool.not_false, Bool.and_true, Bool.true_and, Bool.and_false, Bool.false_and, decide_true, decide_false, Option.bind_some, Option.bind_none, h1]
        exact fin _ rfl
      · have d0 : isL (txt (h.1 55 0) t (i + j)) = 0 := by have := isL_le (txt (h.1 55 0) t (i + j)); omega
        simp (disch := omega) only [L_0, L_1, L_2, L_3, L_4, L_5, L_6, L_7, L_8, L_9, L_10, L_11, L_12, L_13, L_14, L_15, L_16, L_17, L_18, L_19, L_20, L_21, L_22, L_23, L_24, L_25, L_26, L_27, L_28, L_29, L_30, L_31, L_32, L_33, L_34, L_35, L_40, L_41, L_42, L_43, L_44, L_45, L_47, L_48, L_50, L_53, L_57, L_59, L_60, L_61, L_63, L_64, L_97, L_100, L_101, L_102, L_103, L_122, L_130, L_216, L_255, L_364, L_400, L_402, L_420, L_728, L_768, L_999, L_1000, L_1093, L_1872, L_2000, L_9999, L_12345, L_252645135, L_858993459, L_1103515245, L_1431655765, Lm_1, Lm_2, Lm_8, N_le_fp, N_eq_tp, cond_true, cond_false, Bool.not_true, Bool.not_false, Bool.and_true, Bool.true_and, Bool.and_false, Bool.false_and, decide_true, decide_false, Option.bind_some, Option.bind_none, h1, X_at ht h1, X_isL (txt_le _ _ _), d0]
        exact fin _ rfl
    | succ r ih =>
      intro j hj
      have dj := r1 j (by omega)
      have ih2 := ih (j + 1) (by omega)
      have bl := txt_le (h.1 55 0) t (i + j)
      have e : q_Tokens_withLetter sc h (Int64.ofInt (wvz (txt (h.1 55 0) t) i j)) (nN (txt (h.1 55 0) t (i + j))) = some (Int64.ofInt (wvz (txt (h.1 55 0) t) i (j + 1)), h) := by
        rw [q_Tokens_withLetter_eq, nN_long (by omega)]
        refine congrArg (fun x => some (x, h)) ?_
        have e1 : Int64.ofNat 27 = Int64.ofInt 27 := by decide
        have e2 : Int64.ofNat 97 = Int64.ofInt 97 := by decide
        have e3 : Int64.ofNat 1 = Int64.ofInt 1 := by decide
        rw [e1, e2, e3, ← Int64.ofInt_mul, ← Int64.ofInt_add, ← Int64.ofInt_sub, ← Int64.ofInt_add, wvz]
        congr 1
        omega
      rw [q_Tokens_cutWord_L5_eq]
      simp (disch := omega) only [L_0, L_1, L_2, L_3, L_4, L_5, L_6, L_7, L_8, L_9, L_10, L_11, L_12, L_13, L_14, L_15, L_16, L_17, L_18, L_19, L_20, L_21, L_22, L_23, L_24, L_25, L_26, L_27, L_28, L_29, L_30, L_31, L_32, L_33, L_34, L_35, L_40, L_41, L_42, L_43, L_44, L_45, L_47, L_48, L_50, L_53, L_57, L_59, L_60, L_61, L_63, L_64, L_97, L_100, L_101, L_102, L_103, L_122, L_130, L_216, L_255, L_364, L_400, L_402, L_420, L_728, L_768, L_999, L_1000, L_1093, L_1872, L_2000, L_9999, L_12345, L_252645135, L_858993459, L_1103515245, L_1431655765, Lm_1, Lm_2, Lm_8, N_le_fp, N_eq_fp, N_add, cond_true, cond_false, Bool.not_true, Bool.not_false, Bool.and_true, Bool.true_and, Bool.and_false, Bool.false_and, decide_true, decide_false, Option.bind_some, Option.bind_none, h1, X_at ht h1, X_isL (txt_le _ _ _), dj, e]
      exact ih2
  rw [q_Tokens_cutWord_eq]
  exact key K 0 (Nat.zero_add _)
end
