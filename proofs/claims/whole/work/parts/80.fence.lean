/-! fence. -/
def nx (n : Nat) (w : Nat → Nat) (p : Nat) : Nat := if (0 < p ∧ p + 1 < n) ∧ w (p - 1) = w (p + 1) ∧ w (p - 1) < 2 then w (p - 1) else w p
def chF (n : Nat) (w : Nat → Nat) : Nat → Nat
  | 0 => 0
  | k + 1 => if nx n w k = w k then chF n w k else 1
theorem nx_le {n : Nat} {w : Nat → Nat} (hw : ∀ p, w p ≤ 2) (p : Nat) : nx n w p ≤ 2 := by
  unfold nx
  split
  · exact hw _
  · exact hw _
theorem chF_le (n : Nat) (w : Nat → Nat) : ∀ k, chF n w k ≤ 1
  | 0 => Nat.zero_le _
  | k + 1 => by
    rw [chF]
    split
    · exact chF_le n w k
    · exact Nat.le_refl _
theorem nx_end {n : Nat} {w : Nat → Nat} {p : Nat} (h : ¬ (0 < p ∧ p + 1 < n)) : nx n w p = w p := by
  unfold nx
  rw [if_neg (fun y => h y.1)]
def itC (n : Nat) : Nat → Nat → (Nat → Nat) → Nat
  | 0, c, _ => c
  | k + 1, c, w => if chF n w n = 0 then c else itC n k (c + 1) (nx n w)
def itW (n : Nat) : Nat → (Nat → Nat) → (Nat → Nat)
  | 0, w => w
  | k + 1, w => if chF n w n = 0 then nx n w else itW n k (nx n w)
theorem itW_le {n : Nat} : ∀ {k : Nat} {w : Nat → Nat}, (∀ p, w p ≤ 2) → ∀ p, itW n k w p ≤ 2
  | 0, w, h, p => h p
  | k + 1, w, h, p => by
    rw [itW]
    split
    · exact nx_le h p
    · exact itW_le (nx_le h) p
theorem itC_le {n : Nat} : ∀ {k c : Nat} {w : Nat → Nat}, itC n k c w ≤ c + k
  | 0, c, w => Nat.le_refl _
  | k + 1, c, w => by
    rw [itC]
    split
    · omega
    · have := itC_le (n := n) (k := k) (c := c + 1) (w := nx n w)
      omega
def rwF (n : Nat) (w : Nat → Nat) : Nat := sm n (fun p => w p * 3 ^ p)
theorem rwF_lt {w : Nat → Nat} (hw : ∀ p, w p ≤ 2) : ∀ n, rwF n w < 3 ^ n
  | 0 => Nat.one_pos
  | n + 1 => by
    have h1 := rwF_lt hw n
    have h2 := Nat.mul_le_mul_right (3 ^ n) (hw n)
    show rwF n w + w n * 3 ^ n < 3 ^ (n + 1)
    rw [Nat.pow_succ]
    omega
theorem rwF_729 {w : Nat → Nat} (hw : ∀ p, w p ≤ 2) {n : Nat} (hn : n ≤ 6) : rwF n w ≤ 728 := by
  have h1 := rwF_lt hw n
  have h2 : 3 ^ n ≤ 3 ^ 6 := Nat.pow_le_pow_right (by decide) hn
  have h3 : (3 : Nat) ^ 6 = 729 := by decide
  omega
theorem c39 {f : Nat → Nat → Nat → Int32} {k : Nat} (hk : k < 6) : wb_cp f 40 0 0 39 0 0 6 39 0 k = f 40 0 k := cp_at hk
theorem c40 {f : Nat → Nat → Nat → Int32} {k : Nat} : wb_cp f 40 0 0 39 0 0 6 40 0 k = f 40 0 k := cp_ne (Or.inl (by decide))
def pvI (j : Nat) : Int32 := if j = 0 then nM 1 else nN (j - 1)
section
variable {sc : wb_X} {B : Nat}
theorem X_look {h : wb_H} {n : Nat} {w : Nat → Nat} (hn : n ≤ 6) (hw : ∀ p, w p ≤ 2) (g : ∀ p, p < n → h.1 40 0 p = nN (w p)) : Ok (q_Fence_lookOver sc h (nN n)) (fun r => r.1 = nN (chF n w n) ∧ Fr [39, 40] h r.2 ∧ ∀ p, p < n → r.2.1 40 0 p = nN (nx n w p)) := by
  have key : ∀ k j, 1 ≤ j → j + k + 1 = n → ∀ h', Fr [39, 40] h h' → (∀ p, p < n → h'.1 39 0 p = nN (w p)) → (∀ p, p < n → h'.1 40 0 p = nN (if p < j then nx n w p else w p)) → Ok (q_Fence_lookOver_L19 sc h' (nN n) (nN (chF n w j)) (nN j)) (fun r => r.1 = nN (chF n w n) ∧ Fr [39, 40] h r.2 ∧ ∀ p, p < n → r.2.1 40 0 p = nN (nx n w p)) := by
    intro k
    induction k with
    | zero =>
      intro j hj1 hj h' F g39 g40
      have cl := chF_le n w j
      have e : chF n w n = chF n w j := by
        rw [show n = j + 1 by omega, chF, ← show n = j + 1 by omega, nx_end (by omega), if_pos rfl]
      rw [q_Fence_lookOver_L19_eq]
      simp (disch := omega) only [L_0, L_1, L_2, L_3, L_4, L_5, L_6, L_7, L_8, L_9, L_10, L_11, L_12, L_13, L_14, L_15, L_16, L_17, L_18, L_19, L_20, L_21, L_22, L_23, L_24, L_25, L_26, L_27, L_28, L_29, L_30, L_31, L_32, L_33, L_34, L_35, L_40, L_41, L_42, L_43, L_44, L_45, L_47, L_48, L_50, L_53, L_57, L_59, L_60, L_61, L_63, L_64, L_97, L_100, L_101, L_102, L_103, L_122, L_130, L_216, L_255, L_364, L_400, L_402, L_420, L_728, L_768, L_999, L_1000, L_1093, L_1872, L_2000, L_9999, L_12345, L_252645135, L_858993459, L_1103515245, L_1431655765, Lm_1, Lm_2, Lm_8, N_zero, N_cast, N_add, N_mul, N_sub, N_addM, N_lt_tp, N_lt_fp, N_le_tp, N_le_fp, N_eq_tp, N_eq_fp, MN_ltp, MN_lep, NM_ltp, NM_lep, NM_eqp, MN_eqp, MM_lt_tp, MM_lt_fp, MM_le_tp, MM_le_fp, MM_eq_tp, MM_eq_fp, N_cl, N_in_t, N_in_f, M_in, N_div, N_rem, N_nb0, N_nb1, cond_true, cond_false, Bool.not_true, Bool.not_false, Bool.and_true, Bool.true_and, Bool.and_false, Bool.false_and, decide_true, decide_false, Option.bind_some, Option.bind_none, N_nb cl]
      refine Ok_some ⟨congrArg nN e.symm, F, fun p hp => ?_⟩
      rw [g40 p hp]
      by_cases z : p < j
      · rw [if_pos z]
      · rw [if_neg z, nx_end (by omega)]
    | succ k ih =>
      intro j hj1 hj h' F g39 g40
      have a1 := g39 (j - 1) (by omega)
      have a2 := g39 (j + 1) (by omega)
      have a3 := g39 j (by omega)
      have w1 := hw (j - 1)
      have w2 := hw (j + 1)
      have w3 := hw j
      have same : nx n w j = w j → Ok (q_Fence_lookOver_L19 sc h' (nN n) (nN (chF n w j)) (nN (j + 1))) (fun r => r.1 = nN (chF n w n) ∧ Fr [39, 40] h r.2 ∧ ∀ p, p < n → r.2.1 40 0 p = nN (nx n w p)) := fun e => by
        have := ih (j + 1) (by omega) (by omega) h' F g39 (fun p hp => by
          rw [g40 p hp]
          by_cases z : p < j
          · rw [if_pos z, if_pos (by omega)]
          · by_cases z2 : p = j
            · rw [z2, if_neg (by omega), if_pos (by omega), e]
            · rw [if_neg z, if_neg (by omega)])
        rw [chF, if_pos e] at this
        exact this
      rw [q_Fence_lookOver_L19_eq]
      by_cases y1 : w (j - 1) = 2
      · simp (disch := omega) only [L_0, L_1, L_2, L_3, L_4, L_5, L_6, L_7, L_8, L_9, L_10, L_11, L_12, L_13, L_14, L_15, L_16, L_17, L_18, L_19, L_20, L_21, L_22, L_23, L_24, L_25, L_26, L_27, L_28, L_29, L_30, L_31, L_32, L_33, L_34, L_35, L_40, L_41, L_42, L_43, L_44, L_45, L_47, L_48, L_50, L_53, L_57, L_59, L_60, L_61, L_63, L_64, L_97, L_100, L_101, L_102, L_103, L_122, L_130, L_216, L_255, L_364, L_400, L_402, L_420, L_728, L_768, L_999, L_1000, L_1093, L_1872, L_2000, L_9999, L_12345, L_252645135, L_858993459, L_1103515245, L_1431655765, Lm_1, Lm_2, Lm_8, N_zero, N_cast, N_add, N_mul, N_sub, N_addM, N_lt_tp, N_lt_fp, N_le_tp, N_le_fp, N_eq_tp, N_eq_fp, MN_ltp, MN_lep, NM_ltp, NM_lep, NM_eqp, MN_eqp, MM_lt_tp, MM_lt_fp, MM_le_tp, MM_le_fp, MM_eq_tp, MM_eq_fp, N_cl, N_in_t, N_in_f, M_in, N_div, N_rem, N_nb0, N_nb1, cond_true, cond_false, Bool.not_true, Bool.not_false, Bool.and_true, Bool.true_and, Bool.and_false, Bool.false_and, decide_true, decide_false, Option.bind_some, Option.bind_none, a1, y1]
        refine same ?_
        unfold nx
        rw [if_neg (by omega)]
      · by_cases y2 : w (j - 1) = w (j + 1)
        · by_cases y3 : w (j - 1) = w j
          · simp (disch := omega) only [L_0, L_1, L_2, L_3, L_4, L_5, L_6, L_7, L_8, L_9, L_10, L_11, L_12, L_13, L_14, L_15, L_16, L_17, L_18, L_19, L_20, L_21, L_22, L_23, L_24, L_25, L_26, L_27, L_28, L_29, L_30, L_31, L_32, L_33, L_34, L_35, L_40, L_41, L_42, L_43, L_44, L_45, L_47, L_48, L_50, L_53, L_57, L_59, L_60, L_61, L_63, L_64, L_97, L_100, L_101, L_102, L_103, L_122, L_130, L_216, L_255, L_364, L_400, L_402, L_420, L_728, L_768, L_999, L_1000, L_1093, L_1872, L_2000, L_9999, L_12345, L_252645135, L_858993459, L_1103515245, L_1431655765, Lm_1, Lm_2, Lm_8, N_zero, N_cast, N_add, N_mul, N_sub, N_addM, N_lt_tp, N_lt_fp, N_le_tp, N_le_fp, N_eq_tp, N_eq_fp, MN_ltp, MN_lep, NM_ltp, NM_lep, NM_eqp, MN_eqp, MM_lt_tp, MM_lt_fp, MM_le_tp, MM_le_fp, MM_eq_tp, MM_eq_fp, N_cl, N_in_t, N_in_f, M_in, N_div, N_rem, N_nb0, N_nb1, cond_true, cond_false, Bool.not_true, Bool.not_false, Bool.and_true, Bool.true_and, Bool.and_false, Bool.false_and, decide_true, decide_false, Option.bind_some, Option.bind_none, a1, a2, a3]
            refine same ?_
            unfold nx
            rw [if_pos ⟨⟨by omega, by omega⟩, y2, by omega⟩, y3]
          · have e : nx n w j = w (j - 1) := by
              unfold nx
              rw [if_pos ⟨⟨by omega, by omega⟩, y2, by omega⟩]
            simp (disch := omega) only [L_0, L_1, L_2, L_3, L_4, L_5, L_6, L_7, L_8, L_9, L_10, L_11, L_12, L_13, L_14, L_15, L_16, L_17, L_18, L_19, L_20, L_21, L_22, L_23, L_24, L_25, L_26, L_27, L_28, L_29, L_30, L_31, L_32, L_33, L_34, L_35, L_40, L_41, L_42, L_43, L_44, L_45, L_47, L_48, L_50, L_53, L_57, L_59, L_60, L_61, L_63, L_64, L_97, L_100, L_101, L_102, L_103, L_122, L_130, L_216, L_255, L_364, L_400, L_402, L_420, L_728, L_768, L_999, L_1000, L_1093, L_1872, L_2000, L_9999, L_12345, L_252645135, L_858993459, L_1103515245, L_1431655765, Lm_1, Lm_2, Lm_8, N_zero, N_cast, N_add, N_mul, N_sub, N_addM, N_lt_tp, N_lt_fp, N_le_tp, N_le_fp, N_eq_tp, N_eq_fp, MN_ltp, MN_lep, NM_ltp, NM_lep, NM_eqp, MN_eqp, MM_lt_tp, MM_lt_fp, MM_le_tp, MM_le_fp, MM_eq_tp, MM_eq_fp, N_cl, N_in_t, N_in_f, M_in, N_div, N_rem, N_nb0, N_nb1, cond_true, cond_false, Bool.not_true, Bool.not_false, Bool.and_true, Bool.true_and, Bool.and_false, Bool.false_and, decide_true, decide_false, Option.bind_some, Option.bind_none, a1, a2, a3]
            have := ih (j + 1) (by omega) (by omega) (wb_iu h' 40 0 j (nN (w (j - 1)))) (Fr_trans F (Fr_iu rfl)) (fun p hp => by rw [iu_nt (by decide)]; exact g39 p hp) (fun p hp => by
              by_cases z2 : p = j
              · rw [z2, iu_at, if_pos (by omega), e]
              · rw [iu_ne z2, g40 p hp]
                by_cases z : p < j
                · rw [if_pos z, if_pos (by omega)]
                · rw [if_neg z, if_neg (by omega)])
            rw [chF, if_neg (by rw [e]; exact y3)] at this
            exact this
        · simp (disch := omega) only [L_0, L_1, L_2, L_3, L_4, L_5, L_6, L_7, L_8, L_9, L_10, L_11, L_12, L_13, L_14, L_15, L_16, L_17, L_18, L_19, L_20, L_21, L_22, L_23, L_24, L_25, L_26, L_27, L_28, L_29, L_30, L_31, L_32, L_33, L_34, L_35, L_40, L_41, L_42, L_43, L_44, L_45, L_47, L_48, L_50, L_53, L_57, L_59, L_60, L_61, L_63, L_64, L_97, L_100, L_101, L_102, L_103, L_122, L_130, L_216, L_255, L_364, L_400, L_402, L_420, L_728, L_768, L_999, L_1000, L_1093, L_1872, L_2000, L_9999, L_12345, L_252645135, L_858993459, L_1103515245, L_1431655765, Lm_1, Lm_2, Lm_8, N_zero, N_cast, N_add, N_mul, N_sub, N_addM, N_lt_tp, N_lt_fp, N_le_tp, N_le_fp, N_eq_tp, N_eq_fp, MN_ltp, MN_lep, NM_ltp, NM_lep, NM_eqp, MN_eqp, MM_lt_tp, MM_lt_fp, MM_le_tp, MM_le_fp, MM_eq_tp, MM_eq_fp, N_cl, N_in_t, N_in_f, M_in, N_div, N_rem, N_nb0, N_nb1, cond_true, cond_false, Bool.not_true, Bool.not_false, Bool.and_true, Bool.true_and, Bool.and_false, Bool.false_and, decide_true, decide_false, Option.bind_some, Option.bind_none, a1, a2]
          refine same ?_
          unfold nx
          rw [if_neg (fun y => y2 y.2.1)]
  rw [q_Fence_lookOver_eq]
  have F0 : Fr [39, 40] h (wb_cp h.1 40 0 0 39 0 0 6, h.2) := Fr_mono (L := [39]) (Fr_cp (fun _ => rfl)) rfl
  simp (disch := omega) only [L_0, L_1, L_2, L_3, L_4, L_5, L_6, L_7, L_8, L_9, L_10, L_11, L_12, L_13, L_14, L_15, L_16, L_17, L_18, L_19, L_20, L_21, L_22, L_23, L_24, L_25, L_26, L_27, L_28, L_29, L_30, L_31, L_32, L_33, L_34, L_35, L_40, L_41, L_42, L_43, L_44, L_45, L_47, L_48, L_50, L_53, L_57, L_59, L_60, L_61, L_63, L_64, L_97, L_100, L_101, L_102, L_103, L_122, L_130, L_216, L_255, L_364, L_400, L_402, L_420, L_728, L_768, L_999, L_1000, L_1093, L_1872, L_2000, L_9999, L_12345, L_252645135, L_858993459, L_1103515245, L_1431655765, Lm_1, Lm_2, Lm_8, N_zero, N_cast, N_add, N_mul, N_sub, N_addM, N_lt_tp, N_lt_fp, N_le_tp, N_le_fp, N_eq_tp, N_eq_fp, MN_ltp, MN_lep, NM_ltp, NM_lep, NM_eqp, MN_eqp, MM_lt_tp, MM_lt_fp, MM_le_tp, MM_le_fp, MM_eq_tp, MM_eq_fp, N_cl, N_in_t, N_in_f, M_in, N_div, N_rem, N_nb0, N_nb1, cond_true, cond_false, Bool.not_true, Bool.not_false, Bool.and_true, Bool.true_and, Bool.and_false, Bool.false_and, decide_true, decide_false, Option.bind_some, Option.bind_none]
  by_cases hn2 : n ≤ 1
  · have e : chF n w n = 0 := by
      rcases (show n = 0 ∨ n = 1 by omega) with t | t <;> subst t
      · rfl
      · rw [chF, nx_end (by omega), if_pos rfl]; rfl
    rw [e]
    have z : (nN n - nN 1 ≤ nN 1) = True := by
      rcases (show n = 0 ∨ n = 1 by omega) with t | t <;> subst t <;> exact eq_true (by decide)
    simp only [Nat.le_refl, decide_true, cond_true]
    rw [q_Fence_lookOver_L19_eq]
    simp only [L_0, L_1, L_2, L_3, L_4, L_5, L_6, L_7, L_8, L_9, L_10, L_11, L_12, L_13, L_14, L_15, L_16, L_17, L_18, L_19, L_20, L_21, L_22, L_23, L_24, L_25, L_26, L_27, L_28, L_29, L_30, L_31, L_32, L_33, L_34, L_35, L_40, L_41, L_42, L_43, L_44, L_45, L_47, L_48, L_50, L_53, L_57, L_59, L_60, L_61, L_63, L_64, L_97, L_100, L_101, L_102, L_103, L_122, L_130, L_216, L_255, L_364, L_400, L_402, L_420, L_728, L_768, L_999, L_1000, L_1093, L_1872, L_2000, L_9999, L_12345, L_252645135, L_858993459, L_1103515245, L_1431655765, Lm_1, Lm_2, Lm_8, z, decide_true, cond_true, N_nb0]
    refine Ok_some ⟨rfl, F0, fun p hp => ?_⟩
    refine (c40 (f := h.1)).trans ((g p hp).trans ?_)
    rw [nx_end (by omega)]
  · have := key (n - 2) 1 (by decide) (by omega) (wb_cp h.1 40 0 0 39 0 0 6, h.2) F0 (fun p hp => (c39 (f := h.1) (by omega)).trans (g p hp)) (fun p hp => by
      refine (c40 (f := h.1)).trans ((g p hp).trans ?_)
      by_cases z : p < 1
      · rw [if_pos z, nx_end (by omega)]
      · rw [if_neg z])
    have c1 : chF n w 1 = 0 := by rw [chF, nx_end (by omega), if_pos rfl]; rfl
    rw [c1] at this
    simp only [Nat.le_refl, decide_true, cond_true]
    exact this
theorem M_look {h : wb_H} {n s : Nat} {w : Nat → Nat} (hn : n ≤ 6) (hs : s ≤ 1) (b2 : h.1 21 0 18 = nN s) (b3 : h.1 73 0 s = nN n) (hw : ∀ p, w p ≤ 2) (g : ∀ p, p < n → h.1 102 0 p = nN (w p)) : Ok (q_M_looksOver sc h) (fun r => r.1 = nN (chF n w n) ∧ Fr [102, 103] h r.2 ∧ ∀ p, p < n → r.2.1 102 0 p = nN (nx n w p)) := by
  have last : ∀ k j, j + k = n → ∀ h', Fr [102, 103] h h' → (∀ p, p < n → h'.1 103 0 p = nN (nx n w p)) → (∀ p, p < j → h'.1 102 0 p = nN (nx n w p)) → Ok (q_M_looksOver_L133 sc h' (nN (chF n w n)) (nN j)) (fun r => r.1 = nN (chF n w n) ∧ Fr [102, 103] h r.2 ∧ ∀ p, p < n → r.2.1 102 0 p = nN (nx n w p)) := by
    intro k
    induction k with
    | zero =>
      intro j hj h' F g1 g2
      rw [Nat.add_zero] at hj
      subst hj
      have c2 : h'.1 21 0 18 = nN s := (Fr_i F (by rfl)).trans b2
      have c3 : h'.1 73 0 s = nN j := (Fr_i F (by rfl)).trans b3
      rw [q_M_looksOver_L133_eq]
      simp (disch := omega) only [L_0, L_1, L_2, L_3, L_4, L_5, L_6, L_7, L_8, L_9, L_10, L_11, L_12, L_13, L_14, L_15, L_16, L_17, L_18, L_19, L_20, L_21, L_22, L_23, L_24, L_25, L_26, L_27, L_28, L_29, L_30, L_31, L_32, L_33, L_34, L_35, L_40, L_41, L_42, L_43, L_44, L_45, L_47, L_48, L_50, L_53, L_57, L_59, L_60, L_61, L_63, L_64, L_97, L_100, L_101, L_102, L_103, L_122, L_130, L_216, L_255, L_364, L_400, L_402, L_420, L_728, L_768, L_999, L_1000, L_1093, L_1872, L_2000, L_9999, L_12345, L_252645135, L_858993459, L_1103515245, L_1431655765, Lm_1, Lm_2, Lm_8, N_zero, N_cast, N_add, N_mul, N_sub, N_addM, N_lt_tp, N_lt_fp, N_le_tp, N_le_fp, N_eq_tp, N_eq_fp, MN_ltp, MN_lep, NM_ltp, NM_lep, NM_eqp, MN_eqp, MM_lt_tp, MM_lt_fp, MM_le_tp, MM_le_fp, MM_eq_tp, MM_eq_fp, N_cl, N_in_t, N_in_f, M_in, N_div, N_rem, N_nb0, N_nb1, cond_true, cond_false, Bool.not_true, Bool.not_false, Bool.and_true, Bool.true_and, Bool.and_false, Bool.false_and, decide_true, decide_false, Option.bind_some, Option.bind_none, c2, c3, N_nb (chF_le j w j)]
      exact Ok_some ⟨rfl, F, g2⟩
    | succ k ih =>
      intro j hj h' F g1 g2
      have c2 : h'.1 21 0 18 = nN s := (Fr_i F (by rfl)).trans b2
      have c3 : h'.1 73 0 s = nN n := (Fr_i F (by rfl)).trans b3
      have a := g1 j (by omega)
      rw [q_M_looksOver_L133_eq]
      simp (disch := omega) only [L_0, L_1, L_2, L_3, L_4, L_5, L_6, L_7, L_8, L_9, L_10, L_11, L_12, L_13, L_14, L_15, L_16, L_17, L_18, L_19, L_20, L_21, L_22, L_23, L_24, L_25, L_26, L_27, L_28, L_29, L_30, L_31, L_32, L_33, L_34, L_35, L_40, L_41, L_42, L_43, L_44, L_45, L_47, L_48, L_50, L_53, L_57, L_59, L_60, L_61, L_63, L_64, L_97, L_100, L_101, L_102, L_103, L_122, L_130, L_216, L_255, L_364, L_400, L_402, L_420, L_728, L_768, L_999, L_1000, L_1093, L_1872, L_2000, L_9999, L_12345, L_252645135, L_858993459, L_1103515245, L_1431655765, Lm_1, Lm_2, Lm_8, N_zero, N_cast, N_add, N_mul, N_sub, N_addM, N_lt_tp, N_lt_fp, N_le_tp, N_le_fp, N_eq_tp, N_eq_fp, MN_ltp, MN_lep, NM_ltp, NM_lep, NM_eqp, MN_eqp, MM_lt_tp, MM_lt_fp, MM_le_tp, MM_le_fp, MM_eq_tp, MM_eq_fp, N_cl, N_in_t, N_in_f, M_in, N_div, N_rem, N_nb0, N_nb1, cond_true, cond_false, Bool.not_true, Bool.not_false, Bool.and_true, Bool.true_and, Bool.and_false, Bool.false_and, decide_true, decide_false, Option.bind_some, Option.bind_none, c2, c3, a]
      refine ih (j + 1) (by omega) _ (Fr_trans F (Fr_iu rfl)) (fun p hp => by rw [iu_nt (by decide)]; exact g1 p hp) (fun p hp => ?_)
      by_cases z : p = j
      · rw [z, iu_at]
      · rw [iu_ne z]; exact g2 p (by omega)
  have key : ∀ k j, j + k = n → ∀ h', Fr [103] h h' → (∀ p, p < j → h'.1 103 0 p = nN (nx n w p)) → Ok (q_M_looksOver_L4 sc h' (nN (chF n w j)) (nN j)) (fun r => r.1 = nN (chF n w n) ∧ Fr [102, 103] h r.2 ∧ ∀ p, p < n → r.2.1 102 0 p = nN (nx n w p)) := by
    intro k
    induction k with
    | zero =>
      intro j hj h' F g1
      rw [Nat.add_zero] at hj
      subst hj
      have c2 : h'.1 21 0 18 = nN s := (Fr_i F (by rfl)).trans b2
      have c3 : h'.1 73 0 s = nN j := (Fr_i F (by rfl)).trans b3
      rw [q_M_looksOver_L4_eq]
      simp (disch := omega) only [L_0, L_1, L_2, L_3, L_4, L_5, L_6, L_7, L_8, L_9, L_10, L_11, L_12, L_13, L_14, L_15, L_16, L_17, L_18, L_19, L_20, L_21, L_22, L_23, L_24, L_25, L_26, L_27, L_28, L_29, L_30, L_31, L_32, L_33, L_34, L_35, L_40, L_41, L_42, L_43, L_44, L_45, L_47, L_48, L_50, L_53, L_57, L_59, L_60, L_61, L_63, L_64, L_97, L_100, L_101, L_102, L_103, L_122, L_130, L_216, L_255, L_364, L_400, L_402, L_420, L_728, L_768, L_999, L_1000, L_1093, L_1872, L_2000, L_9999, L_12345, L_252645135, L_858993459, L_1103515245, L_1431655765, Lm_1, Lm_2, Lm_8, N_zero, N_cast, N_add, N_mul, N_sub, N_addM, N_lt_tp, N_lt_fp, N_le_tp, N_le_fp, N_eq_tp, N_eq_fp, MN_ltp, MN_lep, NM_ltp, NM_lep, NM_eqp, MN_eqp, MM_lt_tp, MM_lt_fp, MM_le_tp, MM_le_fp, MM_eq_tp, MM_eq_fp, N_cl, N_in_t, N_in_f, M_in, N_div, N_rem, N_nb0, N_nb1, cond_true, cond_false, Bool.not_true, Bool.not_false, Bool.and_true, Bool.true_and, Bool.and_false, Bool.false_and, decide_true, decide_false, Option.bind_some, Option.bind_none, c2, c3]
      exact last j 0 (Nat.zero_add _) h' (Fr_mono F rfl) g1 (fun p hp => absurd hp (Nat.not_lt_zero _))
    | succ k ih =>
      intro j hj h' F g1
      have c2 : h'.1 21 0 18 = nN s := (Fr_i F (by rfl)).trans b2
      have c3 : h'.1 73 0 s = nN n := (Fr_i F (by rfl)).trans b3
      have cl := chF_le n w j
      have g2 : ∀ p, p < n → h'.1 102 0 p = nN (w p) := fun p hp => (Fr_i F (by rfl)).trans (g p hp)
      have a3 := g2 j (by omega)
      have w3 := hw j
      have step : ∀ x, x = nx n w j → x ≤ 2 → Ok (q_M_looksOver_L4 sc (wb_iu h' 103 0 j (nN x)) (nN (if x = w j then chF n w j else 1)) (nN (j + 1))) (fun r => r.1 = nN (chF n w n) ∧ Fr [102, 103] h r.2 ∧ ∀ p, p < n → r.2.1 102 0 p = nN (nx n w p)) := fun x hx hx2 => by
        have := ih (j + 1) (by omega) (wb_iu h' 103 0 j (nN x)) (Fr_trans F (Fr_iu rfl)) (fun p hp => by
          by_cases z : p = j
          · rw [z, iu_at, hx]
          · rw [iu_ne z]; exact g1 p (by omega))
        rw [chF, ← hx] at this
        exact this
      have no : nx n w j = w j → Ok (q_M_looksOver_L72 sc h' (nN (chF n w j)) (nN j) (nN 0)) (fun r => r.1 = nN (chF n w n) ∧ Fr [102, 103] h r.2 ∧ ∀ p, p < n → r.2.1 102 0 p = nN (nx n w p)) := fun e => by
        have st := step (w j) e.symm w3
        rw [if_pos rfl] at st
        rw [q_M_looksOver_L72_eq]
        rcases (show chF n w j = 0 ∨ chF n w j = 1 by omega) with t | t
        · rw [t] at st ⊢
          simp (disch := omega) only [L_0, L_1, L_2, L_3, L_4, L_5, L_6, L_7, L_8, L_9, L_10, L_11, L_12, L_13, L_14, L_15, L_16, L_17, L_18, L_19, L_20, L_21, L_22, L_23, L_24, L_25, L_26, L_27, L_28, L_29, L_30, L_31, L_32, L_33, L_34, L_35, L_40, L_41, L_42, L_43, L_44, L_45, L_47, L_48, L_50, L_53, L_57, L_59, L_60, L_61, L_63, L_64, L_97, L_100, L_101, L_102, L_103, L_122, L_130, L_216, L_255, L_364, L_400, L_402, L_420, L_728, L_768, L_999, L_1000, L_1093, L_1872, L_2000, L_9999, L_12345, L_252645135, L_858993459, L_1103515245, L_1431655765, Lm_1, Lm_2, Lm_8, N_zero, N_cast, N_add, N_mul, N_sub, N_addM, N_lt_tp, N_lt_fp, N_le_tp, N_le_fp, N_eq_tp, N_eq_fp, MN_ltp, MN_lep, NM_ltp, NM_lep, NM_eqp, MN_eqp, MM_lt_tp, MM_lt_fp, MM_le_tp, MM_le_fp, MM_eq_tp, MM_eq_fp, N_cl, N_in_t, N_in_f, M_in, N_div, N_rem, N_nb0, N_nb1, cond_true, cond_false, Bool.not_true, Bool.not_false, Bool.and_true, Bool.true_and, Bool.and_false, Bool.false_and, decide_true, decide_false, Option.bind_some, Option.bind_none, a3, iu_at, iu_nt (show 102 ≠ 103 by decide)]
          exact st
        · rw [t] at st ⊢
          simp (disch := omega) only [L_0, L_1, L_2, L_3, L_4, L_5, L_6, L_7, L_8, L_9, L_10, L_11, L_12, L_13, L_14, L_15, L_16, L_17, L_18, L_19, L_20, L_21, L_22, L_23, L_24, L_25, L_26, L_27, L_28, L_29, L_30, L_31, L_32, L_33, L_34, L_35, L_40, L_41, L_42, L_43, L_44, L_45, L_47, L_48, L_50, L_53, L_57, L_59, L_60, L_61, L_63, L_64, L_97, L_100, L_101, L_102, L_103, L_122, L_130, L_216, L_255, L_364, L_400, L_402, L_420, L_728, L_768, L_999, L_1000, L_1093, L_1872, L_2000, L_9999, L_12345, L_252645135, L_858993459, L_1103515245, L_1431655765, Lm_1, Lm_2, Lm_8, N_zero, N_cast, N_add, N_mul, N_sub, N_addM, N_lt_tp, N_lt_fp, N_le_tp, N_le_fp, N_eq_tp, N_eq_fp, MN_ltp, MN_lep, NM_ltp, NM_lep, NM_eqp, MN_eqp, MM_lt_tp, MM_lt_fp, MM_le_tp, MM_le_fp, MM_eq_tp, MM_eq_fp, N_cl, N_in_t, N_in_f, M_in, N_div, N_rem, N_nb0, N_nb1, cond_true, cond_false, Bool.not_true, Bool.not_false, Bool.and_true, Bool.true_and, Bool.and_false, Bool.false_and, decide_true, decide_false, Option.bind_some, Option.bind_none, a3]
          exact st
      rw [q_M_looksOver_L4_eq]
      by_cases y0 : j = 0
      · simp (disch := omega) only [L_0, L_1, L_2, L_3, L_4, L_5, L_6, L_7, L_8, L_9, L_10, L_11, L_12, L_13, L_14, L_15, L_16, L_17, L_18, L_19, L_20, L_21, L_22, L_23, L_24, L_25, L_26, L_27, L_28, L_29, L_30, L_31, L_32, L_33, L_34, L_35, L_40, L_41, L_42, L_43, L_44, L_45, L_47, L_48, L_50, L_53, L_57, L_59, L_60, L_61, L_63, L_64, L_97, L_100, L_101, L_102, L_103, L_122, L_130, L_216, L_255, L_364, L_400, L_402, L_420, L_728, L_768, L_999, L_1000, L_1093, L_1872, L_2000, L_9999, L_12345, L_252645135, L_858993459, L_1103515245, L_1431655765, Lm_1, Lm_2, Lm_8, N_zero, N_cast, N_add, N_mul, N_sub, N_addM, N_lt_tp, N_lt_fp, N_le_tp, N_le_fp, N_eq_tp, N_eq_fp, MN_ltp, MN_lep, NM_ltp, NM_lep, NM_eqp, MN_eqp, MM_lt_tp, MM_lt_fp, MM_le_tp, MM_le_fp, MM_eq_tp, MM_eq_fp, N_cl, N_in_t, N_in_f, M_in, N_div, N_rem, N_nb0, N_nb1, cond_true, cond_false, Bool.not_true, Bool.not_false, Bool.and_true, Bool.true_and, Bool.and_false, Bool.false_and, decide_true, decide_false, Option.bind_some, Option.bind_none, c2, c3]
        exact no (nx_end (by omega))
      · by_cases y1 : n ≤ j + 1
        · simp (disch := omega) only [L_0, L_1, L_2, L_3, L_4, L_5, L_6, L_7, L_8, L_9, L_10, L_11, L_12, L_13, L_14, L_15, L_16, L_17, L_18, L_19, L_20, L_21, L_22, L_23, L_24, L_25, L_26, L_27, L_28, L_29, L_30, L_31, L_32, L_33, L_34, L_35, L_40, L_41, L_42, L_43, L_44, L_45, L_47, L_48, L_50, L_53, L_57, L_59, L_60, L_61, L_63, L_64, L_97, L_100, L_101, L_102, L_103, L_122, L_130, L_216, L_255, L_364, L_400, L_402, L_420, L_728, L_768, L_999, L_1000, L_1093, L_1872, L_2000, L_9999, L_12345, L_252645135, L_858993459, L_1103515245, L_1431655765, Lm_1, Lm_2, Lm_8, N_zero, N_cast, N_add, N_mul, N_sub, N_addM, N_lt_tp, N_lt_fp, N_le_tp, N_le_fp, N_eq_tp, N_eq_fp, MN_ltp, MN_lep, NM_ltp, NM_lep, NM_eqp, MN_eqp, MM_lt_tp, MM_lt_fp, MM_le_tp, MM_le_fp, MM_eq_tp, MM_eq_fp, N_cl, N_in_t, N_in_f, M_in, N_div, N_rem, N_nb0, N_nb1, cond_true, cond_false, Bool.not_true, Bool.not_false, Bool.and_true, Bool.true_and, Bool.and_false, Bool.false_and, decide_true, decide_false, Option.bind_some, Option.bind_none, c2, c3]
          exact no (nx_end (by omega))
        · have a1 := g2 (j - 1) (by omega)
          have a2 := g2 (j + 1) (by omega)
          have w1 := hw (j - 1)
          have w2 := hw (j + 1)
          by_cases y2 : w (j - 1) = w (j + 1)
          · by_cases y3 : 2 ≤ w (j - 1)
            · simp (disch := omega) only [L_0, L_1, L_2, L_3, L_4, L_5, L_6, L_7, L_8, L_9, L_10, L_11, L_12, L_13, L_14, L_15, L_16, L_17, L_18, L_19, L_20, L_21, L_22, L_23, L_24, L_25, L_26, L_27, L_28, L_29, L_30, L_31, L_32, L_33, L_34, L_35, L_40, L_41, L_42, L_43, L_44, L_45, L_47, L_48, L_50, L_53, L_57, L_59, L_60, L_61, L_63, L_64, L_97, L_100, L_101, L_102, L_103, L_122, L_130, L_216, L_255, L_364, L_400, L_402, L_420, L_728, L_768, L_999, L_1000, L_1093, L_1872, L_2000, L_9999, L_12345, L_252645135, L_858993459, L_1103515245, L_1431655765, Lm_1, Lm_2, Lm_8, N_zero, N_cast, N_add, N_mul, N_sub, N_addM, N_lt_tp, N_lt_fp, N_le_tp, N_le_fp, N_eq_tp, N_eq_fp, MN_ltp, MN_lep, NM_ltp, NM_lep, NM_eqp, MN_eqp, MM_lt_tp, MM_lt_fp, MM_le_tp, MM_le_fp, MM_eq_tp, MM_eq_fp, N_cl, N_in_t, N_in_f, M_in, N_div, N_rem, N_nb0, N_nb1, cond_true, cond_false, Bool.not_true, Bool.not_false, Bool.and_true, Bool.true_and, Bool.and_false, Bool.false_and, decide_true, decide_false, Option.bind_some, Option.bind_none, c2, c3, a1, a2]
              refine no ?_
              unfold nx
              rw [if_neg (by omega)]
            · have e : w (j - 1) = nx n w j := by
                unfold nx
                rw [if_pos ⟨⟨by omega, by omega⟩, y2, by omega⟩]
              have st := step (w (j - 1)) e w1
              simp (disch := omega) only [L_0, L_1, L_2, L_3, L_4, L_5, L_6, L_7, L_8, L_9, L_10, L_11, L_12, L_13, L_14, L_15, L_16, L_17, L_18, L_19, L_20, L_21, L_22, L_23, L_24, L_25, L_26, L_27, L_28, L_29, L_30, L_31, L_32, L_33, L_34, L_35, L_40, L_41, L_42, L_43, L_44, L_45, L_47, L_48, L_50, L_53, L_57, L_59, L_60, L_61, L_63, L_64, L_97, L_100, L_101, L_102, L_103, L_122, L_130, L_216, L_255, L_364, L_400, L_402, L_420, L_728, L_768, L_999, L_1000, L_1093, L_1872, L_2000, L_9999, L_12345, L_252645135, L_858993459, L_1103515245, L_1431655765, Lm_1, Lm_2, Lm_8, N_zero, N_cast, N_add, N_mul, N_sub, N_addM, N_lt_tp, N_lt_fp, N_le_tp, N_le_fp, N_eq_tp, N_eq_fp, MN_ltp, MN_lep, NM_ltp, NM_lep, NM_eqp, MN_eqp, MM_lt_tp, MM_lt_fp, MM_le_tp, MM_le_fp, MM_eq_tp, MM_eq_fp, N_cl, N_in_t, N_in_f, M_in, N_div, N_rem, N_nb0, N_nb1, cond_true, cond_false, Bool.not_true, Bool.not_false, Bool.and_true, Bool.true_and, Bool.and_false, Bool.false_and, decide_true, decide_false, Option.bind_some, Option.bind_none, c2, c3, a1, a2]
              rw [q_M_looksOver_L72_eq]
              by_cases y4 : w (j - 1) = w j
              · rw [if_pos y4] at st
                rcases (show chF n w j = 0 ∨ chF n w j = 1 by omega) with t | t
                · rw [t] at st ⊢
                  simp (disch := omega) only [L_0, L_1, L_2, L_3, L_4, L_5, L_6, L_7, L_8, L_9, L_10, L_11, L_12, L_13, L_14, L_15, L_16, L_17, L_18, L_19, L_20, L_21, L_22, L_23, L_24, L_25, L_26, L_27, L_28, L_29, L_30, L_31, L_32, L_33, L_34, L_35, L_40, L_41, L_42, L_43, L_44, L_45, L_47, L_48, L_50, L_53, L_57, L_59, L_60, L_61, L_63, L_64, L_97, L_100, L_101, L_102, L_103, L_122, L_130, L_216, L_255, L_364, L_400, L_402, L_420, L_728, L_768, L_999, L_1000, L_1093, L_1872, L_2000, L_9999, L_12345, L_252645135, L_858993459, L_1103515245, L_1431655765, Lm_1, Lm_2, Lm_8, N_zero, N_cast, N_add, N_mul, N_sub, N_addM, N_lt_tp, N_lt_fp, N_le_tp, N_le_fp, N_eq_tp, N_eq_fp, MN_ltp, MN_lep, NM_ltp, NM_lep, NM_eqp, MN_eqp, MM_lt_tp, MM_lt_fp, MM_le_tp, MM_le_fp, MM_eq_tp, MM_eq_fp, N_cl, N_in_t, N_in_f, M_in, N_div, N_rem, N_nb0, N_nb1, cond_true, cond_false, Bool.not_true, Bool.not_false, Bool.and_true, Bool.true_and, Bool.and_false, Bool.false_and, decide_true, decide_false, Option.bind_some, Option.bind_none, a1, a3, iu_at, iu_nt (show 102 ≠ 103 by decide)]
                  exact st
                · rw [t] at st ⊢
                  simp (disch := omega) only [L_0, L_1, L_2, L_3, L_4, L_5, L_6, L_7, L_8, L_9, L_10, L_11, L_12, L_13, L_14, L_15, L_16, L_17, L_18, L_19, L_20, L_21, L_22, L_23, L_24, L_25, L_26, L_27, L_28, L_29, L_30, L_31, L_32, L_33, L_34, L_35, L_40, L_41, L_42, L_43, L_44, L_45, L_47, L_48, L_50, L_53, L_57, L_59, L_60, L_61, L_63, L_64, L_97, L_100, L_101, L_102, L_103, L_122, L_130, L_216, L_255, L_364, L_400, L_402, L_420, L_728, L_768, L_999, L_1000, L_1093, L_1872, L_2000, L_9999, L_12345, L_252645135, L_858993459, L_1103515245, L_1431655765, Lm_1, Lm_2, Lm_8, N_zero, N_cast, N_add, N_mul, N_sub, N_addM, N_lt_tp, N_lt_fp, N_le_tp, N_le_fp, N_eq_tp, N_eq_fp, MN_ltp, MN_lep, NM_ltp, NM_lep, NM_eqp, MN_eqp, MM_lt_tp, MM_lt_fp, MM_le_tp, MM_le_fp, MM_eq_tp, MM_eq_fp, N_cl, N_in_t, N_in_f, M_in, N_div, N_rem, N_nb0, N_nb1, cond_true, cond_false, Bool.not_true, Bool.not_false, Bool.and_true, Bool.true_and, Bool.and_false, Bool.false_and, decide_true, decide_false, Option.bind_some, Option.bind_none, a1, a3]
                  exact st
              · rw [if_neg y4] at st
                rcases (show chF n w j = 0 ∨ chF n w j = 1 by omega) with t | t
                · rw [t]
                  simp (disch := omega) only [L_0, L_1, L_2, L_3, L_4, L_5, L_6, L_7, L_8, L_9, L_10, L_11, L_12, L_13, L_14, L_15, L_16, L_17, L_18, L_19, L_20, L_21, L_22, L_23, L_24, L_25, L_26, L_27, L_28, L_29, L_30, L_31, L_32, L_33, L_34, L_35, L_40, L_41, L_42, L_43, L_44, L_45, L_47, L_48, L_50, L_53, L_57, L_59, L_60, L_61, L_63, L_64, L_97, L_100, L_101, L_102, L_103, L_122, L_130, L_216, L_255, L_364, L_400, L_402, L_420, L_728, L_768, L_999, L_1000, L_1093, L_1872, L_2000, L_9999, L_12345, L_252645135, L_858993459, L_1103515245, L_1431655765, Lm_1, Lm_2, Lm_8, N_zero, N_cast, N_add, N_mul, N_sub, N_addM, N_lt_tp, N_lt_fp, N_le_tp, N_le_fp, N_eq_tp, N_eq_fp, MN_ltp, MN_lep, NM_ltp, NM_lep, NM_eqp, MN_eqp, MM_lt_tp, MM_lt_fp, MM_le_tp, MM_le_fp, MM_eq_tp, MM_eq_fp, N_cl, N_in_t, N_in_f, M_in, N_div, N_rem, N_nb0, N_nb1, cond_true, cond_false, Bool.not_true, Bool.not_false, Bool.and_true, Bool.true_and, Bool.and_false, Bool.false_and, decide_true, decide_false, Option.bind_some, Option.bind_none, a1, a3, iu_at, iu_nt (show 102 ≠ 103 by decide)]
                  exact st
                · rw [t]
                  simp (disch := omega) only [L_0, L_1, L_2, L_3, L_4, L_5, L_6, L_7, L_8, L_9, L_10, L_11, L_12, L_13, L_14, L_15, L_16, L_17, L_18, L_19, L_20, L_21, L_22, L_23, L_24, L_25, L_26, L_27, L_28, L_29, L_30, L_31, L_32, L_33, L_34, L_35, L_40, L_41, L_42, L_43, L_44, L_45, L_47, L_48, L_50, L_53, L_57, L_59, L_60, L_61, L_63, L_64, L_97, L_100, L_101, L_102, L_103, L_122, L_130, L_216, L_255, L_364, L_400, L_402, L_420, L_728, L_768, L_999, L_1000, L_1093, L_1872, L_2000, L_9999, L_12345, L_252645135, L_858993459, L_1103515245, L_1431655765, Lm_1, Lm_2, Lm_8, N_zero, N_cast, N_add, N_mul, N_sub, N_addM, N_lt_tp, N_lt_fp, N_le_tp, N_le_fp, N_eq_tp, N_eq_fp, MN_ltp, MN_lep, NM_ltp, NM_lep, NM_eqp, MN_eqp, MM_lt_tp, MM_lt_fp, MM_le_tp, MM_le_fp, MM_eq_tp, MM_eq_fp, N_cl, N_in_t, N_in_f, M_in, N_div, N_rem, N_nb0, N_nb1, cond_true, cond_false, Bool.not_true, Bool.not_false, Bool.and_true, Bool.true_and, Bool.and_false, Bool.false_and, decide_true, decide_false, Option.bind_some, Option.bind_none, a1, a3]
                  exact st
          · simp (disch := omega) only [L_0, L_1, L_2, L_3, L_4, L_5, L_6, L_7, L_8, L_9, L_10, L_11, L_12, L_13, L_14, L_15, L_16, L_17, L_18, L_19, L_20, L_21, L_22, L_23, L_24, L_25, L_26, L_27, L_28, L_29, L_30, L_31, L_32, L_33, L_34, L_35, L_40, L_41, L_42, L_43, L_44, L_45, L_47, L_48, L_50, L_53, L_57, L_59, L_60, L_61, L_63, L_64, L_97, L_100, L_101, L_102, L_103, L_122, L_130, L_216, L_255, L_364, L_400, L_402, L_420, L_728, L_768, L_999, L_1000, L_1093, L_1872, L_2000, L_9999, L_12345, L_252645135, L_858993459, L_1103515245, L_1431655765, Lm_1, Lm_2, Lm_8, N_zero, N_cast, N_add, N_mul, N_sub, N_addM, N_lt_tp, N_lt_fp, N_le_tp, N_le_fp, N_eq_tp, N_eq_fp, MN_ltp, MN_lep, NM_ltp, NM_lep, NM_eqp, MN_eqp, MM_lt_tp, MM_lt_fp, MM_le_tp, MM_le_fp, MM_eq_tp, MM_eq_fp, N_cl, N_in_t, N_in_f, M_in, N_div, N_rem, N_nb0, N_nb1, cond_true, cond_false, Bool.not_true, Bool.not_false, Bool.and_true, Bool.true_and, Bool.and_false, Bool.false_and, decide_true, decide_false, Option.bind_some, Option.bind_none, c2, c3, a1, a2]
            refine no ?_
            unfold nx
            rw [if_neg (fun y => y2 y.2.1)]
  rw [q_M_looksOver_eq]
  exact key n 0 (Nat.zero_add _) h (Fr_refl _ _) (fun p hp => absurd hp (Nat.not_lt_zero _))
end
