/-! rests. -/
theorem xor_and : ∀ l, l < 64 → ∀ i, i < 6 → ∀ r, r < 64 → l &&& r = 0 → tb r i = 0 → (l ^^^ 2 ^ i) &&& r = 0 := by decide +kernel
theorem cnS_le (T : wT) (R : wR) : ∀ k, cnS T R k ≤ k
  | 0 => Nat.le_refl _
  | k + 1 => by
    have := cnS_le T R k
    rw [cnS]
    split <;> omega
theorem cnS_t {T : wT} {R : wR} {k : Nat} (g : gdS T R k) : cnS T R (k + 1) = cnS T R k + 1 := by rw [cnS, if_pos g]
theorem cnS_f {T : wT} {R : wR} {k : Nat} (g : ¬ gdS T R k) : cnS T R (k + 1) = cnS T R k := by rw [cnS, if_neg g]; rfl
theorem cnS_ex {T : wT} {R : wR} {a : Nat} : ∀ {k : Nat}, a < cnS T R k → ∃ set, set < k ∧ gdS T R set ∧ cnS T R set = a
  | 0, h => absurd h (Nat.not_lt_zero _)
  | k + 1, h => by
    by_cases g : gdS T R k
    · rw [cnS_t g] at h
      by_cases e : cnS T R k = a
      · exact ⟨k, Nat.lt_succ_self _, g, e⟩
      · have h' : a < cnS T R k := by omega
        obtain ⟨set, h1, h2, h3⟩ := cnS_ex h'
        exact ⟨set, by omega, h2, h3⟩
    · rw [cnS_f g] at h
      obtain ⟨set, h1, h2, h3⟩ := cnS_ex h
      exact ⟨set, by omega, h2, h3⟩
theorem cnS_mono (T : wT) (R : wR) (k : Nat) : ∀ m, cnS T R k ≤ cnS T R (k + m)
  | 0 => Nat.le_refl _
  | m + 1 => by
    have := cnS_mono T R k m
    rw [show k + (m + 1) = (k + m) + 1 from rfl, cnS]
    split <;> omega
theorem cnS_lt {T : wT} {R : wR} {k m : Nat} (g : gdS T R k) (h : k < m) : cnS T R k < cnS T R m := by
  have := cnS_mono T R (k + 1) (m - (k + 1))
  rw [cnS_t g, show k + 1 + (m - (k + 1)) = m by omega] at this
  omega
theorem cp_off {f : Nat → Nat → Nat → Int32} {t o t2 o2 d n k : Nat} (h : ¬ (d ≤ k ∧ k < d + n)) : wb_cp f t o 0 t2 o2 d n t2 o2 k = f t2 o2 k := by
  rw [wb_cp, if_neg]
  rintro ⟨-, a⟩
  exact h a
theorem cp_on {f : Nat → Nat → Nat → Int32} {t o t2 o2 d n i : Nat} (h : i < n) : wb_cp f t o 0 t2 o2 d n t2 o2 (d + i) = f t o i := by
  rw [wb_cp, if_pos ⟨⟨rfl, rfl⟩, by omega, by omega⟩]
  congr 1
  omega
theorem fO_fr {L : List Nat} {h h' : wb_H} {A : wa} {Q : Nat} (F : Fr L h h') (d : wb_dj [97, 98] L = true) (H : fO h A Q) : fO h' A Q := by
  have g : ∀ x, wb_mem x [97, 98] = true → wb_mem x L = false := fun x hx => wb_dj_mem d hx
  exact ⟨fun w hw => (Fr_i F (by exact g 98 rfl)).trans (H.1 w hw), fun w hw p hp => (Fr_i F (by exact g 97 rfl)).trans (H.2 w hw p hp)⟩
theorem chS_10 {T : wT} {R : wR} (hT : T_ok T) (hR : R_ok T R) (set i : Nat) : chS T R set i ≤ 10000000 := wrP_10 (mkA_ok hT (rwith_ok hR hR.2.2.2.2)) 0 _
section
variable {sc : wb_X} {B : Nat}
theorem X_resting {h : wb_H} {T : wT} {R : wR} {v q s : Nat} (C : Core h T R v q s B) (tab : ∀ l, l < 2 ^ tn T → l &&& rlf R = 0 → ∀ i, i < tn T → h.1 63 0 (l * 6 + i) = nN (chS T R l i)) {set : Nat} (hs : set < 2 ^ tn T) (hz : set &&& rlf R = 0) : ∃ g, g ≤ 1 ∧ q_X_isResting sc h (nN set) = some (nN g, h) ∧ (g = 1 ↔ rst T R set) := by
  have n6 := C.1.1
  have p64 := pow2_64 n6
  have rl := C.2.1.2.2.2.2
  obtain ⟨e1, e2⟩ := X_ptr C
  have g1 : decide (0 < q + 1) = true := decide_eq_true (by omega)
  have g3 : decide (q < 2) = true := decide_eq_true e2
  have f := C.2.2.2.1.2.1
  have l17 : h.1 17 0 2 = nN (rlf R) := C.2.2.2.2.2.2.2.1.1.2.2
  have key : ∀ k j, j + k = tn T → (∀ i, i < j → tb (rlf R) i = 0 → ¬ chS T R (set ^^^ 2 ^ i) i < chS T R set i) → ∃ g, g ≤ 1 ∧ q_X_isResting_L2 sc h (nN set) (nN j) = some (nN g, h) ∧ (g = 1 ↔ rst T R set) := by
    intro k
    induction k with
    | zero =>
      intro j hj ok
      rw [Nat.add_zero] at hj
      subst hj
      refine ⟨1, by decide, ?_, fun _ => ok, fun _ => rfl⟩
      rw [q_X_isResting_L2_eq]
      simp (disch := omega) only [L_0, L_1, L_2, L_3, L_4, L_5, L_6, L_7, L_8, L_9, L_10, L_11, L_12, L_13, L_14, L_15, L_16, L_17, L_18, L_19, L_20, L_21, L_22, L_23, L_24, L_25, L_26, L_27, L_28, L_29, L_30, L_31, L_32, L_33, L_34, L_35, L_40, L_41, L_42, L_43, L_44, L_45, L_47, L_48, L_50, L_53, L_57, L_59, L_60, L_61, L_63, L_64, L_97, L_100, L_101, L_102, L_103, L_122, L_130, L_216, L_255, L_364, L_400, L_402, L_420, L_728, L_768, L_999, L_1000, L_1093, L_1872, L_2000, L_9999, L_12345, L_252645135, L_858993459, L_1103515245, L_1431655765, Lm_1, Lm_2, Lm_8, N_zero, N_cast, N_add, N_mul, N_sub, N_addM, N_lt_tp, N_lt_fp, N_le_tp, N_le_fp, N_eq_tp, N_eq_fp, MN_ltp, MN_lep, NM_ltp, NM_lep, NM_eqp, MN_eqp, MM_lt_tp, MM_lt_fp, MM_le_tp, MM_le_fp, MM_eq_tp, MM_eq_fp, N_cl, N_in_t, N_in_f, M_in, N_div, N_rem, N_nb0, N_nb1, cond_true, cond_false, Bool.not_true, Bool.not_false, Bool.and_true, Bool.true_and, Bool.and_false, Bool.false_and, decide_true, decide_false, Option.bind_some, Option.bind_none, e1, Nat.add_sub_cancel, g1, g3, f]
    | succ k ih =>
      intro j hj ok
      have xl := bt_lt_xor set (by omega) j (by omega)
      have xb := bt_xor set (by omega) j (by omega)
      rw [q_X_isResting_L2_eq]
      by_cases z : tb (rlf R) j = 0
      · have pj : 2 ^ j < 2 ^ tn T := Nat.pow_lt_pow_right (by decide) (by omega)
        have xl2 : set ^^^ 2 ^ j < 2 ^ tn T := Nat.xor_lt_two_pow hs pj
        have t1 := tab set hs hz j (by omega)
        have t2 := tab (set ^^^ 2 ^ j) xl2 (xor_and set (by omega) j (by omega) (rlf R) (by omega) hz z) j (by omega)
        have b1 := chS_10 C.1 C.2.1 set j
        have b2 := chS_10 C.1 C.2.1 (set ^^^ 2 ^ j) j
        simp (disch := omega) only [L_0, L_1, L_2, L_3, L_4, L_5, L_6, L_7, L_8, L_9, L_10, L_11, L_12, L_13, L_14, L_15, L_16, L_17, L_18, L_19, L_20, L_21, L_22, L_23, L_24, L_25, L_26, L_27, L_28, L_29, L_30, L_31, L_32, L_33, L_34, L_35, L_40, L_41, L_42, L_43, L_44, L_45, L_47, L_48, L_50, L_53, L_57, L_59, L_60, L_61, L_63, L_64, L_97, L_100, L_101, L_102, L_103, L_122, L_130, L_216, L_255, L_364, L_400, L_402, L_420, L_728, L_768, L_999, L_1000, L_1093, L_1872, L_2000, L_9999, L_12345, L_252645135, L_858993459, L_1103515245, L_1431655765, Lm_1, Lm_2, Lm_8, N_zero, N_cast, N_add, N_mul, N_sub, N_addM, N_lt_tp, N_lt_fp, N_le_tp, N_le_fp, N_eq_tp, N_eq_fp, MN_ltp, MN_lep, NM_ltp, NM_lep, NM_eqp, MN_eqp, MM_lt_tp, MM_lt_fp, MM_le_tp, MM_le_fp, MM_eq_tp, MM_eq_fp, N_cl, N_in_t, N_in_f, M_in, N_div, N_rem, N_nb0, N_nb1, cond_true, cond_false, Bool.not_true, Bool.not_false, Bool.and_true, Bool.true_and, Bool.and_false, Bool.false_and, decide_true, decide_false, Option.bind_some, Option.bind_none, e1, Nat.add_sub_cancel, g1, g3, f, l17, X_hasBit (sc := sc) (h := h) (show rlf R < 64 by omega) (show j < 6 by omega), z, xb, t1, t2]
        by_cases y : chS T R (set ^^^ 2 ^ j) j < chS T R set j
        · rw [N_le_f y (by omega)]
          exact ⟨0, by decide, rfl, fun x => absurd x (by decide), fun x => absurd y (x j (by omega) z)⟩
        · rw [N_le_t (by omega) (by omega)]
          exact ih (j + 1) (by omega) fun i hi hb => by
            by_cases w : i = j
            · rw [w]; exact y
            · exact ok i (by omega) hb
      · have z1 : tb (rlf R) j = 1 := by have := tb_lt (rlf R) j; omega
        simp (disch := omega) only [L_0, L_1, L_2, L_3, L_4, L_5, L_6, L_7, L_8, L_9, L_10, L_11, L_12, L_13, L_14, L_15, L_16, L_17, L_18, L_19, L_20, L_21, L_22, L_23, L_24, L_25, L_26, L_27, L_28, L_29, L_30, L_31, L_32, L_33, L_34, L_35, L_40, L_41, L_42, L_43, L_44, L_45, L_47, L_48, L_50, L_53, L_57, L_59, L_60, L_61, L_63, L_64, L_97, L_100, L_101, L_102, L_103, L_122, L_130, L_216, L_255, L_364, L_400, L_402, L_420, L_728, L_768, L_999, L_1000, L_1093, L_1872, L_2000, L_9999, L_12345, L_252645135, L_858993459, L_1103515245, L_1431655765, Lm_1, Lm_2, Lm_8, N_zero, N_cast, N_add, N_mul, N_sub, N_addM, N_lt_tp, N_lt_fp, N_le_tp, N_le_fp, N_eq_tp, N_eq_fp, MN_ltp, MN_lep, NM_ltp, NM_lep, NM_eqp, MN_eqp, MM_lt_tp, MM_lt_fp, MM_le_tp, MM_le_fp, MM_eq_tp, MM_eq_fp, N_cl, N_in_t, N_in_f, M_in, N_div, N_rem, N_nb0, N_nb1, cond_true, cond_false, Bool.not_true, Bool.not_false, Bool.and_true, Bool.true_and, Bool.and_false, Bool.false_and, decide_true, decide_false, Option.bind_some, Option.bind_none, e1, Nat.add_sub_cancel, g1, g3, f, l17, X_hasBit (sc := sc) (h := h) (show rlf R < 64 by omega) (show j < 6 by omega), z1]
        exact ih (j + 1) (by omega) fun i hi hb => by
          by_cases w : i = j
          · rw [w] at hb; omega
          · exact ok i (by omega) hb
  rw [q_X_isResting_eq]
  exact key (tn T) 0 (Nat.zero_add _) (fun i hi => absurd hi (Nat.not_lt_zero _))
theorem M_resting {h : wb_H} {T : wT} {R : wR} {v q s : Nat} (C : Core h T R v q s B) (tab : ∀ l, l < 2 ^ tn T → ∀ i, i < tn T → h.1 101 0 (6 * l + i) = nN (chS T R l i)) {set : Nat} (hs : set < 2 ^ tn T) : ∃ g, g ≤ 1 ∧ q_M_isResting sc h (nN set) = some (nN g, h) ∧ (g = 1 ↔ rst T R set) := by
  have n6 := C.1.1
  have p64 := pow2_64 n6
  have rl := C.2.1.2.2.2.2
  obtain ⟨a1, a2, a3, -⟩ := C.2.2.2.2.1
  have S12 := C.2.2.2.2.2.2.2.1.2.1.2.2
  rw [Nat.zero_add] at S12
  have key : ∀ k j, j + k = tn T → (∀ i, i < j → tb (rlf R) i = 0 → ¬ chS T R (set ^^^ 2 ^ i) i < chS T R set i) → ∃ g, g ≤ 1 ∧ q_M_isResting_L2 sc h (nN set) (nN j) = some (nN g, h) ∧ (g = 1 ↔ rst T R set) := by
    intro k
    induction k with
    | zero =>
      intro j hj ok
      rw [Nat.add_zero] at hj
      subst hj
      refine ⟨1, by decide, ?_, fun _ => ok, fun _ => rfl⟩
      rw [q_M_isResting_L2_eq]
      simp (disch := omega) only [L_0, L_1, L_2, L_3, L_4, L_5, L_6, L_7, L_8, L_9, L_10, L_11, L_12, L_13, L_14, L_15, L_16, L_17, L_18, L_19, L_20, L_21, L_22, L_23, L_24, L_25, L_26, L_27, L_28, L_29, L_30, L_31, L_32, L_33, L_34, L_35, L_40, L_41, L_42, L_43, L_44, L_45, L_47, L_48, L_50, L_53, L_57, L_59, L_60, L_61, L_63, L_64, L_97, L_100, L_101, L_102, L_103, L_122, L_130, L_216, L_255, L_364, L_400, L_402, L_420, L_728, L_768, L_999, L_1000, L_1093, L_1872, L_2000, L_9999, L_12345, L_252645135, L_858993459, L_1103515245, L_1431655765, Lm_1, Lm_2, Lm_8, N_zero, N_cast, N_add, N_mul, N_sub, N_addM, N_lt_tp, N_lt_fp, N_le_tp, N_le_fp, N_eq_tp, N_eq_fp, MN_ltp, MN_lep, NM_ltp, NM_lep, NM_eqp, MN_eqp, MM_lt_tp, MM_lt_fp, MM_le_tp, MM_le_fp, MM_eq_tp, MM_eq_fp, N_cl, N_in_t, N_in_f, M_in, N_div, N_rem, N_nb0, N_nb1, cond_true, cond_false, Bool.not_true, Bool.not_false, Bool.and_true, Bool.true_and, Bool.and_false, Bool.false_and, decide_true, decide_false, Option.bind_some, Option.bind_none, a2, a3]
    | succ k ih =>
      intro j hj ok
      have xl := bt_lt_xor set (by omega) j (by omega)
      have xb := bt_xor set (by omega) j (by omega)
      have gt := bt_get (rlf R) (by omega) j (by omega)
      rw [q_M_isResting_L2_eq]
      by_cases z : tb (rlf R) j = 0
      · have pj : 2 ^ j < 2 ^ tn T := Nat.pow_lt_pow_right (by decide) (by omega)
        have xl2 : set ^^^ 2 ^ j < 2 ^ tn T := Nat.xor_lt_two_pow hs pj
        have t1 := tab set hs j (by omega)
        have t2 := tab (set ^^^ 2 ^ j) xl2 j (by omega)
        have b1 := chS_10 C.1 C.2.1 set j
        have b2 := chS_10 C.1 C.2.1 (set ^^^ 2 ^ j) j
        simp (disch := omega) only [L_0, L_1, L_2, L_3, L_4, L_5, L_6, L_7, L_8, L_9, L_10, L_11, L_12, L_13, L_14, L_15, L_16, L_17, L_18, L_19, L_20, L_21, L_22, L_23, L_24, L_25, L_26, L_27, L_28, L_29, L_30, L_31, L_32, L_33, L_34, L_35, L_40, L_41, L_42, L_43, L_44, L_45, L_47, L_48, L_50, L_53, L_57, L_59, L_60, L_61, L_63, L_64, L_97, L_100, L_101, L_102, L_103, L_122, L_130, L_216, L_255, L_364, L_400, L_402, L_420, L_728, L_768, L_999, L_1000, L_1093, L_1872, L_2000, L_9999, L_12345, L_252645135, L_858993459, L_1103515245, L_1431655765, Lm_1, Lm_2, Lm_8, N_zero, N_cast, N_add, N_mul, N_sub, N_addM, N_lt_tp, N_lt_fp, N_le_tp, N_le_fp, N_eq_tp, N_eq_fp, MN_ltp, MN_lep, NM_ltp, NM_lep, NM_eqp, MN_eqp, MM_lt_tp, MM_lt_fp, MM_le_tp, MM_le_fp, MM_eq_tp, MM_eq_fp, N_cl, N_in_t, N_in_f, M_in, N_div, N_rem, N_nb0, N_nb1, cond_true, cond_false, Bool.not_true, Bool.not_false, Bool.and_true, Bool.true_and, Bool.and_false, Bool.false_and, decide_true, decide_false, Option.bind_some, Option.bind_none, a2, a3, S12, gt, z, xb, t1, t2]
        by_cases y : chS T R (set ^^^ 2 ^ j) j < chS T R set j
        · rw [N_le_f y (by omega)]
          exact ⟨0, by decide, rfl, fun x => absurd x (by decide), fun x => absurd y (x j (by omega) z)⟩
        · rw [N_le_t (by omega) (by omega)]
          exact ih (j + 1) (by omega) fun i hi hb => by
            by_cases w : i = j
            · rw [w]; exact y
            · exact ok i (by omega) hb
      · have z1 : tb (rlf R) j = 1 := by have := tb_lt (rlf R) j; omega
        simp (disch := omega) only [L_0, L_1, L_2, L_3, L_4, L_5, L_6, L_7, L_8, L_9, L_10, L_11, L_12, L_13, L_14, L_15, L_16, L_17, L_18, L_19, L_20, L_21, L_22, L_23, L_24, L_25, L_26, L_27, L_28, L_29, L_30, L_31, L_32, L_33, L_34, L_35, L_40, L_41, L_42, L_43, L_44, L_45, L_47, L_48, L_50, L_53, L_57, L_59, L_60, L_61, L_63, L_64, L_97, L_100, L_101, L_102, L_103, L_122, L_130, L_216, L_255, L_364, L_400, L_402, L_420, L_728, L_768, L_999, L_1000, L_1093, L_1872, L_2000, L_9999, L_12345, L_252645135, L_858993459, L_1103515245, L_1431655765, Lm_1, Lm_2, Lm_8, N_zero, N_cast, N_add, N_mul, N_sub, N_addM, N_lt_tp, N_lt_fp, N_le_tp, N_le_fp, N_eq_tp, N_eq_fp, MN_ltp, MN_lep, NM_ltp, NM_lep, NM_eqp, MN_eqp, MM_lt_tp, MM_lt_fp, MM_le_tp, MM_le_fp, MM_eq_tp, MM_eq_fp, N_cl, N_in_t, N_in_f, M_in, N_div, N_rem, N_nb0, N_nb1, cond_true, cond_false, Bool.not_true, Bool.not_false, Bool.and_true, Bool.true_and, Bool.and_false, Bool.false_and, decide_true, decide_false, Option.bind_some, Option.bind_none, a2, a3, S12, gt, z1]
        exact ih (j + 1) (by omega) fun i hi hb => by
          by_cases w : i = j
          · rw [w] at hb; omega
          · exact ok i (by omega) hb
  rw [q_M_isResting_eq]
  exact key (tn T) 0 (Nat.zero_add _) (fun i hi => absurd hi (Nat.not_lt_zero _))
theorem X_findRests {h : wb_H} {T : wT} {R : wR} {v q s : Nat} (C : Core h T R v q s B) (D : Cache h T R q) : Ok (q_X_findRests sc h) (fun h' => Fr XQQ h h' ∧ Cache h' T R q ∧ Rest h' T R) := by
  have n6 := C.1.1
  have p64 := pow2_64 n6
  have pp := Nat.pow_pos (n := tn T) (show 0 < 2 by decide)
  have rl := C.2.1.2.2.2.2
  obtain ⟨e1, e2⟩ := X_ptr C
  have g1 : decide (0 < q + 1) = true := decide_eq_true (by omega)
  have second : ∀ r k, k + r = 2 ^ tn T → ∀ h', Fr XQQ h h' → (∀ l, l < 2 ^ tn T → l &&& rlf R = 0 → ∀ i, i < tn T → h'.1 63 0 (l * 6 + i) = nN (chS T R l i)) → h'.1 20 0 15 = nN 0 → (∀ l, l < 2 ^ tn T → h'.1 62 0 l = nM 1 ∨ h'.1 62 0 l = nN (mnA (mkA T (rwith R l 0)) 0)) → h'.1 20 0 14 = nN (cnS T R k) → (∀ set, set < k → gdS T R set → h'.1 64 0 (cnS T R set) = nN set) → Ok (q_X_findRests_L92 sc h' (nN k)) (fun h' => Fr XQQ h h' ∧ Cache h' T R q ∧ Rest h' T R) := by
    intro r
    induction r with
    | zero =>
      intro k hk h' F' tab z15 z62 z14 g64
      rw [Nat.add_zero] at hk
      subst hk
      have C' := CoreX C F'
      rw [q_X_findRests_L92_eq, X_allHouses C']
      simp (disch := omega) only [L_0, L_1, L_2, L_3, L_4, L_5, L_6, L_7, L_8, L_9, L_10, L_11, L_12, L_13, L_14, L_15, L_16, L_17, L_18, L_19, L_20, L_21, L_22, L_23, L_24, L_25, L_26, L_27, L_28, L_29, L_30, L_31, L_32, L_33, L_34, L_35, L_40, L_41, L_42, L_43, L_44, L_45, L_47, L_48, L_50, L_53, L_57, L_59, L_60, L_61, L_63, L_64, L_97, L_100, L_101, L_102, L_103, L_122, L_130, L_216, L_255, L_364, L_400, L_402, L_420, L_728, L_768, L_999, L_1000, L_1093, L_1872, L_2000, L_9999, L_12345, L_252645135, L_858993459, L_1103515245, L_1431655765, Lm_1, Lm_2, Lm_8, N_zero, N_cast, N_add, N_mul, N_sub, N_addM, N_lt_tp, N_lt_fp, N_le_tp, N_le_fp, N_eq_tp, N_eq_fp, MN_ltp, MN_lep, NM_ltp, NM_lep, NM_eqp, MN_eqp, MM_lt_tp, MM_lt_fp, MM_le_tp, MM_le_fp, MM_eq_tp, MM_eq_fp, N_cl, N_in_t, N_in_f, M_in, N_div, N_rem, N_nb0, N_nb1, cond_true, cond_false, Bool.not_true, Bool.not_false, Bool.and_true, Bool.true_and, Bool.and_false, Bool.false_and, decide_true, decide_false, Option.bind_some, Option.bind_none]
      exact Ok_some ⟨F', ⟨Or.inl z15, z62, Or.inr ⟨z14, g64⟩⟩, z14, g64⟩
    | succ r ih =>
      intro k hk h' F' tab z15 z62 z14 g64
      have C' := CoreX C F'
      have l17 : h'.1 17 0 2 = nN (rlf R) := C'.2.2.2.2.2.2.2.1.1.2.2
      have al : k &&& rlf R ≤ k := Nat.and_le_left
      have cl := cnS_le T R k
      have skip : ¬ gdS T R k → Ok (q_X_findRests_L92 sc h' (nN (k + 1))) (fun h' => Fr XQQ h h' ∧ Cache h' T R q ∧ Rest h' T R) := fun ng => by
        refine ih (k + 1) (by omega) h' F' tab z15 z62 (by rw [cnS_f ng]; exact z14) fun set hset gs => ?_
        by_cases w : set = k
        · rw [w] at gs; exact absurd gs ng
        · exact g64 set (by omega) gs
      rw [q_X_findRests_L92_eq, X_allHouses C']
      by_cases z : k &&& rlf R = 0
      · simp (disch := omega) only [L_0, L_1, L_2, L_3, L_4, L_5, L_6, L_7, L_8, L_9, L_10, L_11, L_12, L_13, L_14, L_15, L_16, L_17, L_18, L_19, L_20, L_21, L_22, L_23, L_24, L_25, L_26, L_27, L_28, L_29, L_30, L_31, L_32, L_33, L_34, L_35, L_40, L_41, L_42, L_43, L_44, L_45, L_47, L_48, L_50, L_53, L_57, L_59, L_60, L_61, L_63, L_64, L_97, L_100, L_101, L_102, L_103, L_122, L_130, L_216, L_255, L_364, L_400, L_402, L_420, L_728, L_768, L_999, L_1000, L_1093, L_1872, L_2000, L_9999, L_12345, L_252645135, L_858993459, L_1103515245, L_1431655765, Lm_1, Lm_2, Lm_8, N_zero, N_cast, N_add, N_mul, N_sub, N_addM, N_lt_tp, N_lt_fp, N_le_tp, N_le_fp, N_eq_tp, N_eq_fp, MN_ltp, MN_lep, NM_ltp, NM_lep, NM_eqp, MN_eqp, MM_lt_tp, MM_lt_fp, MM_le_tp, MM_le_fp, MM_eq_tp, MM_eq_fp, N_cl, N_in_t, N_in_f, M_in, N_div, N_rem, N_nb0, N_nb1, cond_true, cond_false, Bool.not_true, Bool.not_false, Bool.and_true, Bool.true_and, Bool.and_false, Bool.false_and, decide_true, decide_false, Option.bind_some, Option.bind_none, l17, bt_and2 k (show k < 64 by omega) (rlf R) (show rlf R < 64 by omega), z]
        obtain ⟨g, hg, hr, hg2⟩ := X_resting (sc := sc) C' tab (show k < 2 ^ tn T by omega) z
        rw [hr]
        by_cases y : g = 1
        · have gd : gdS T R k := ⟨z, hg2.mp y⟩
          subst y
          simp (disch := omega) only [L_0, L_1, L_2, L_3, L_4, L_5, L_6, L_7, L_8, L_9, L_10, L_11, L_12, L_13, L_14, L_15, L_16, L_17, L_18, L_19, L_20, L_21, L_22, L_23, L_24, L_25, L_26, L_27, L_28, L_29, L_30, L_31, L_32, L_33, L_34, L_35, L_40, L_41, L_42, L_43, L_44, L_45, L_47, L_48, L_50, L_53, L_57, L_59, L_60, L_61, L_63, L_64, L_97, L_100, L_101, L_102, L_103, L_122, L_130, L_216, L_255, L_364, L_400, L_402, L_420, L_728, L_768, L_999, L_1000, L_1093, L_1872, L_2000, L_9999, L_12345, L_252645135, L_858993459, L_1103515245, L_1431655765, Lm_1, Lm_2, Lm_8, N_zero, N_cast, N_add, N_mul, N_sub, N_addM, N_lt_tp, N_lt_fp, N_le_tp, N_le_fp, N_eq_tp, N_eq_fp, MN_ltp, MN_lep, NM_ltp, NM_lep, NM_eqp, MN_eqp, MM_lt_tp, MM_lt_fp, MM_le_tp, MM_le_fp, MM_eq_tp, MM_eq_fp, N_cl, N_in_t, N_in_f, M_in, N_div, N_rem, N_nb0, N_nb1, cond_true, cond_false, Bool.not_true, Bool.not_false, Bool.and_true, Bool.true_and, Bool.and_false, Bool.false_and, decide_true, decide_false, Option.bind_some, Option.bind_none, z14, iu_nt (show 20 ≠ 64 by decide)]
          have F4 : Fr [64, 2014] h' (wb_iu (wb_iu h' 64 0 (cnS T R k) (nN k)) 20 0 14 (nN (cnS T R k + 1))) := Fr_trans (Fr_iu rfl) (Fr_iu rfl)
          refine ih (k + 1) (by omega) _ (Fr_trans F' (Fr_mono F4 rfl)) (fun l hl hlz i hi => (Fr_i F4 (by rfl)).trans (tab l hl hlz i hi)) ((Fr_i F4 (by rfl)).trans z15) (fun l hl => ?_) ?_ (fun set hset gs => ?_)
          · rw [Fr_i F4 (t := 62) (by rfl)]; exact z62 l hl
          · rw [iu_at, cnS_t gd]
          · rw [iu_nt (by decide)]
            by_cases w : set = k
            · rw [w, iu_at]
            · have := cnS_lt gs (show set < k by omega)
              rw [iu_ne (by omega)]
              exact g64 set (by omega) gs
        · have g0 : g = 0 := by omega
          subst g0
          simp (disch := omega) only [L_0, L_1, L_2, L_3, L_4, L_5, L_6, L_7, L_8, L_9, L_10, L_11, L_12, L_13, L_14, L_15, L_16, L_17, L_18, L_19, L_20, L_21, L_22, L_23, L_24, L_25, L_26, L_27, L_28, L_29, L_30, L_31, L_32, L_33, L_34, L_35, L_40, L_41, L_42, L_43, L_44, L_45, L_47, L_48, L_50, L_53, L_57, L_59, L_60, L_61, L_63, L_64, L_97, L_100, L_101, L_102, L_103, L_122, L_130, L_216, L_255, L_364, L_400, L_402, L_420, L_728, L_768, L_999, L_1000, L_1093, L_1872, L_2000, L_9999, L_12345, L_252645135, L_858993459, L_1103515245, L_1431655765, Lm_1, Lm_2, Lm_8, N_zero, N_cast, N_add, N_mul, N_sub, N_addM, N_lt_tp, N_lt_fp, N_le_tp, N_le_fp, N_eq_tp, N_eq_fp, MN_ltp, MN_lep, NM_ltp, NM_lep, NM_eqp, MN_eqp, MM_lt_tp, MM_lt_fp, MM_le_tp, MM_le_fp, MM_eq_tp, MM_eq_fp, N_cl, N_in_t, N_in_f, M_in, N_div, N_rem, N_nb0, N_nb1, cond_true, cond_false, Bool.not_true, Bool.not_false, Bool.and_true, Bool.true_and, Bool.and_false, Bool.false_and, decide_true, decide_false, Option.bind_some, Option.bind_none]
          exact skip (fun gd => y (hg2.mpr gd.2))
      · simp (disch := omega) only [L_0, L_1, L_2, L_3, L_4, L_5, L_6, L_7, L_8, L_9, L_10, L_11, L_12, L_13, L_14, L_15, L_16, L_17, L_18, L_19, L_20, L_21, L_22, L_23, L_24, L_25, L_26, L_27, L_28, L_29, L_30, L_31, L_32, L_33, L_34, L_35, L_40, L_41, L_42, L_43, L_44, L_45, L_47, L_48, L_50, L_53, L_57, L_59, L_60, L_61, L_63, L_64, L_97, L_100, L_101, L_102, L_103, L_122, L_130, L_216, L_255, L_364, L_400, L_402, L_420, L_728, L_768, L_999, L_1000, L_1093, L_1872, L_2000, L_9999, L_12345, L_252645135, L_858993459, L_1103515245, L_1431655765, Lm_1, Lm_2, Lm_8, N_zero, N_cast, N_add, N_mul, N_sub, N_addM, N_lt_tp, N_lt_fp, N_le_tp, N_le_fp, N_eq_tp, N_eq_fp, MN_ltp, MN_lep, NM_ltp, NM_lep, NM_eqp, MN_eqp, MM_lt_tp, MM_lt_fp, MM_le_tp, MM_le_fp, MM_eq_tp, MM_eq_fp, N_cl, N_in_t, N_in_f, M_in, N_div, N_rem, N_nb0, N_nb1, cond_true, cond_false, Bool.not_true, Bool.not_false, Bool.and_true, Bool.true_and, Bool.and_false, Bool.false_and, decide_true, decide_false, Option.bind_some, Option.bind_none, l17, bt_and2 k (show k < 64 by omega) (rlf R) (show rlf R < 64 by omega)]
        exact skip (fun gd => z gd.1)
  have first : ∀ r k, k + r = 2 ^ tn T → ∀ h', Fr XQQ h h' → (∀ l, l < k → l &&& rlf R = 0 → ∀ i, i < tn T → h'.1 63 0 (l * 6 + i) = nN (chS T R l i)) → h'.1 20 0 15 = nN 0 → (∀ l, l < 2 ^ tn T → h'.1 62 0 l = nM 1 ∨ h'.1 62 0 l = nN (mnA (mkA T (rwith R l 0)) 0)) → Ok (q_X_findRests_L7 sc h' (nN k)) (fun h' => Fr XQQ h h' ∧ Cache h' T R q ∧ Rest h' T R) := by
    intro r
    induction r with
    | zero =>
      intro k hk h' F' tab z15 z62
      rw [Nat.add_zero] at hk
      subst hk
      have C' := CoreX C F'
      rw [q_X_findRests_L7_eq, X_allHouses C']
      simp (disch := omega) only [L_0, L_1, L_2, L_3, L_4, L_5, L_6, L_7, L_8, L_9, L_10, L_11, L_12, L_13, L_14, L_15, L_16, L_17, L_18, L_19, L_20, L_21, L_22, L_23, L_24, L_25, L_26, L_27, L_28, L_29, L_30, L_31, L_32, L_33, L_34, L_35, L_40, L_41, L_42, L_43, L_44, L_45, L_47, L_48, L_50, L_53, L_57, L_59, L_60, L_61, L_63, L_64, L_97, L_100, L_101, L_102, L_103, L_122, L_130, L_216, L_255, L_364, L_400, L_402, L_420, L_728, L_768, L_999, L_1000, L_1093, L_1872, L_2000, L_9999, L_12345, L_252645135, L_858993459, L_1103515245, L_1431655765, Lm_1, Lm_2, Lm_8, N_zero, N_cast, N_add, N_mul, N_sub, N_addM, N_lt_tp, N_lt_fp, N_le_tp, N_le_fp, N_eq_tp, N_eq_fp, MN_ltp, MN_lep, NM_ltp, NM_lep, NM_eqp, MN_eqp, MM_lt_tp, MM_lt_fp, MM_le_tp, MM_le_fp, MM_eq_tp, MM_eq_fp, N_cl, N_in_t, N_in_f, M_in, N_div, N_rem, N_nb0, N_nb1, cond_true, cond_false, Bool.not_true, Bool.not_false, Bool.and_true, Bool.true_and, Bool.and_false, Bool.false_and, decide_true, decide_false, Option.bind_some, Option.bind_none]
      have F4 : Fr [2014] h' (wb_iu h' 20 0 14 (nN 0)) := Fr_iu rfl
      refine second (2 ^ tn T) 0 (Nat.zero_add _) _ (Fr_trans F' (Fr_mono F4 rfl)) (fun l hl hlz i hi => (Fr_i F4 (by rfl)).trans (tab l hl hlz i hi)) ((Fr_i F4 (by rfl)).trans z15) (fun l hl => ?_) iu_at (fun set hset => absurd hset (Nat.not_lt_zero _))
      rw [Fr_i F4 (t := 62) (by rfl)]; exact z62 l hl
    | succ r ih =>
      intro k hk h' F' tab z15 z62
      have C' := CoreX C F'
      have l17 : h'.1 17 0 2 = nN (rlf R) := C'.2.2.2.2.2.2.2.1.1.2.2
      have al : k &&& rlf R ≤ k := Nat.and_le_left
      have p2 : h'.2.2 20 0 2 = q + 1 := (X_ptr C').1
      rw [q_X_findRests_L7_eq, X_allHouses C']
      by_cases z : k &&& rlf R = 0
      · simp (disch := omega) only [L_0, L_1, L_2, L_3, L_4, L_5, L_6, L_7, L_8, L_9, L_10, L_11, L_12, L_13, L_14, L_15, L_16, L_17, L_18, L_19, L_20, L_21, L_22, L_23, L_24, L_25, L_26, L_27, L_28, L_29, L_30, L_31, L_32, L_33, L_34, L_35, L_40, L_41, L_42, L_43, L_44, L_45, L_47, L_48, L_50, L_53, L_57, L_59, L_60, L_61, L_63, L_64, L_97, L_100, L_101, L_102, L_103, L_122, L_130, L_216, L_255, L_364, L_400, L_402, L_420, L_728, L_768, L_999, L_1000, L_1093, L_1872, L_2000, L_9999, L_12345, L_252645135, L_858993459, L_1103515245, L_1431655765, Lm_1, Lm_2, Lm_8, N_zero, N_cast, N_add, N_mul, N_sub, N_addM, N_lt_tp, N_lt_fp, N_le_tp, N_le_fp, N_eq_tp, N_eq_fp, MN_ltp, MN_lep, NM_ltp, NM_lep, NM_eqp, MN_eqp, MM_lt_tp, MM_lt_fp, MM_le_tp, MM_le_fp, MM_eq_tp, MM_eq_fp, N_cl, N_in_t, N_in_f, M_in, N_div, N_rem, N_nb0, N_nb1, cond_true, cond_false, Bool.not_true, Bool.not_false, Bool.and_true, Bool.true_and, Bool.and_false, Bool.false_and, decide_true, decide_false, Option.bind_some, Option.bind_none, l17, bt_and2 k (show k < 64 by omega) (rlf R) (show rlf R < 64 by omega), z, p2, Nat.add_sub_cancel, g1]
        refine Ok_bind (X_arrange C'.1 C'.2.1 C'.2.2.2.1 C'.2.2.2.2.2.2.2.1.1 rl (show k < 64 by omega)) ?_
        rintro h1 ⟨F1, -, A1⟩
        have hA := mkA_ok C.1 (rwith_ok C.2.1 (own := k) rl)
        refine Ok_bind (X_unfold hA (Nat.zero_le _) A1) ?_
        rintro h2 ⟨F2, E2⟩
        simp only [Bool.true_and, Nat.add_zero, Nat.zero_add, decide_eq_true (show k * 6 + 6 ≤ 384 by omega), decide_eq_true (show 6 ≤ 6 by omega), Bool.and_self, cond_true]
        have F4 : Fr [63] h2 (wb_cp h2.1 36 0 0 63 0 (k * 6) 6, h2.2) := Fr_cp (fun _ => rfl)
        have FF : Fr (SA ++ SX ++ [63]) h' (wb_cp h2.1 36 0 0 63 0 (k * 6) 6, h2.2) := Fr_trans (Fr_mono F1 rfl) (Fr_trans (Fr_mono F2 rfl) (Fr_mono F4 rfl))
        refine ih (k + 1) (by omega) (wb_cp h2.1 36 0 0 63 0 (k * 6) 6, h2.2) (Fr_trans F' (Fr_mono FF rfl)) (fun l hl hlz i hi => ?_) ((Fr_i FF (by rfl)).trans z15) (fun l hl => ?_)
        · by_cases w : l = k
          · rw [w]
            refine (cp_on (f := h2.1) (show i < 6 by omega)).trans ?_
            exact E2.1 i hi
          · refine (cp_off (f := h2.1) (by omega)).trans ?_
            refine (Fr_i F2 (by rfl)).trans ((Fr_i F1 (by rfl)).trans (tab l (by omega) hlz i hi))
        · rw [Fr_i FF (t := 62) (by rfl)]; exact z62 l hl
      · simp (disch := omega) only [L_0, L_1, L_2, L_3, L_4, L_5, L_6, L_7, L_8, L_9, L_10, L_11, L_12, L_13, L_14, L_15, L_16, L_17, L_18, L_19, L_20, L_21, L_22, L_23, L_24, L_25, L_26, L_27, L_28, L_29, L_30, L_31, L_32, L_33, L_34, L_35, L_40, L_41, L_42, L_43, L_44, L_45, L_47, L_48, L_50, L_53, L_57, L_59, L_60, L_61, L_63, L_64, L_97, L_100, L_101, L_102, L_103, L_122, L_130, L_216, L_255, L_364, L_400, L_402, L_420, L_728, L_768, L_999, L_1000, L_1093, L_1872, L_2000, L_9999, L_12345, L_252645135, L_858993459, L_1103515245, L_1431655765, Lm_1, Lm_2, Lm_8, N_zero, N_cast, N_add, N_mul, N_sub, N_addM, N_lt_tp, N_lt_fp, N_le_tp, N_le_fp, N_eq_tp, N_eq_fp, MN_ltp, MN_lep, NM_ltp, NM_lep, NM_eqp, MN_eqp, MM_lt_tp, MM_lt_fp, MM_le_tp, MM_le_fp, MM_eq_tp, MM_eq_fp, N_cl, N_in_t, N_in_f, M_in, N_div, N_rem, N_nb0, N_nb1, cond_true, cond_false, Bool.not_true, Bool.not_false, Bool.and_true, Bool.true_and, Bool.and_false, Bool.false_and, decide_true, decide_false, Option.bind_some, Option.bind_none, l17, bt_and2 k (show k < 64 by omega) (rlf R) (show rlf R < 64 by omega)]
        refine ih (k + 1) (by omega) h' F' (fun l hl hlz i hi => ?_) z15 z62
        by_cases w : l = k
        · rw [w] at hlz; exact absurd hlz z
        · exact tab l (by omega) hlz i hi
  rw [q_X_findRests_eq]
  show Ok (q_X_findRests_L7 sc (wb_iu h 20 0 15 (nN 0)) (nN 0)) _
  have F0 : Fr [2015] h (wb_iu h 20 0 15 (nN 0)) := Fr_iu rfl
  refine first (2 ^ tn T) 0 (Nat.zero_add _) _ (Fr_mono F0 rfl) (fun l hl => absurd hl (Nat.not_lt_zero _)) iu_at (fun l hl => ?_)
  rw [Fr_i F0 (t := 62) (by rfl)]
  exact D.2.1 l hl
theorem M_fillsCh {h : wb_H} {T : wT} {R : wR} {v q s : Nat} (C : Core h T R v q s B) : Ok (q_M_fillsChances sc h) (fun h' => Fr MQQ h h' ∧ ∀ l, l < 2 ^ tn T → ∀ i, i < tn T → h'.1 101 0 (6 * l + i) = nN (chS T R l i)) := by
  have n6 := C.1.1
  have p64 := pow2_64 n6
  have pp := Nat.pow_pos (n := tn T) (show 0 < 2 by decide)
  have rl := C.2.1.2.2.2.2
  have key : ∀ r k, k + r = 2 ^ tn T → ∀ h', Fr MQQ h h' → (∀ l, l < k → ∀ i, i < tn T → h'.1 101 0 (6 * l + i) = nN (chS T R l i)) → Ok (q_M_fillsChances_L2 sc h' (nN k)) (fun h' => Fr MQQ h h' ∧ ∀ l, l < 2 ^ tn T → ∀ i, i < tn T → h'.1 101 0 (6 * l + i) = nN (chS T R l i)) := by
    intro r
    induction r with
    | zero =>
      intro k hk h' F' tab
      rw [Nat.add_zero] at hk
      subst hk
      have C' := CoreM C F'
      rw [q_M_fillsChances_L2_eq, M_allHouses C']
      simp (disch := omega) only [L_0, L_1, L_2, L_3, L_4, L_5, L_6, L_7, L_8, L_9, L_10, L_11, L_12, L_13, L_14, L_15, L_16, L_17, L_18, L_19, L_20, L_21, L_22, L_23, L_24, L_25, L_26, L_27, L_28, L_29, L_30, L_31, L_32, L_33, L_34, L_35, L_40, L_41, L_42, L_43, L_44, L_45, L_47, L_48, L_50, L_53, L_57, L_59, L_60, L_61, L_63, L_64, L_97, L_100, L_101, L_102, L_103, L_122, L_130, L_216, L_255, L_364, L_400, L_402, L_420, L_728, L_768, L_999, L_1000, L_1093, L_1872, L_2000, L_9999, L_12345, L_252645135, L_858993459, L_1103515245, L_1431655765, Lm_1, Lm_2, Lm_8, N_zero, N_cast, N_add, N_mul, N_sub, N_addM, N_lt_tp, N_lt_fp, N_le_tp, N_le_fp, N_eq_tp, N_eq_fp, MN_ltp, MN_lep, NM_ltp, NM_lep, NM_eqp, MN_eqp, MM_lt_tp, MM_lt_fp, MM_le_tp, MM_le_fp, MM_eq_tp, MM_eq_fp, N_cl, N_in_t, N_in_f, M_in, N_div, N_rem, N_nb0, N_nb1, cond_true, cond_false, Bool.not_true, Bool.not_false, Bool.and_true, Bool.true_and, Bool.and_false, Bool.false_and, decide_true, decide_false, Option.bind_some, Option.bind_none]
      exact Ok_some ⟨F', tab⟩
    | succ r ih =>
      intro k hk h' F' tab
      have C' := CoreM C F'
      rw [q_M_fillsChances_L2_eq, M_allHouses C']
      simp (disch := omega) only [L_0, L_1, L_2, L_3, L_4, L_5, L_6, L_7, L_8, L_9, L_10, L_11, L_12, L_13, L_14, L_15, L_16, L_17, L_18, L_19, L_20, L_21, L_22, L_23, L_24, L_25, L_26, L_27, L_28, L_29, L_30, L_31, L_32, L_33, L_34, L_35, L_40, L_41, L_42, L_43, L_44, L_45, L_47, L_48, L_50, L_53, L_57, L_59, L_60, L_61, L_63, L_64, L_97, L_100, L_101, L_102, L_103, L_122, L_130, L_216, L_255, L_364, L_400, L_402, L_420, L_728, L_768, L_999, L_1000, L_1093, L_1872, L_2000, L_9999, L_12345, L_252645135, L_858993459, L_1103515245, L_1431655765, Lm_1, Lm_2, Lm_8, N_zero, N_cast, N_add, N_mul, N_sub, N_addM, N_lt_tp, N_lt_fp, N_le_tp, N_le_fp, N_eq_tp, N_eq_fp, MN_ltp, MN_lep, NM_ltp, NM_lep, NM_eqp, MN_eqp, MM_lt_tp, MM_lt_fp, MM_le_tp, MM_le_fp, MM_eq_tp, MM_eq_fp, N_cl, N_in_t, N_in_f, M_in, N_div, N_rem, N_nb0, N_nb1, cond_true, cond_false, Bool.not_true, Bool.not_false, Bool.and_true, Bool.true_and, Bool.and_false, Bool.false_and, decide_true, decide_false, Option.bind_some, Option.bind_none]
      refine Ok_bind (M_copies C') ?_
      rintro h1 ⟨F1, g1, g2, g3⟩
      have r1 := Row_now C' g1
      have hR := rwith_ok C.2.1 (own := k) rl
      have hA := mkA_ok C.1 hR
      have third : ∀ h2, MA h2 s (rlf R) (mkA T (rwith R (rlf R) k)) → fO h2 (mkA T (rwith R (rlf R) k)) 0 → Fr MQQ h h2 → (∀ l, l < k → ∀ i, i < tn T → h2.1 101 0 (6 * l + i) = nN (chS T R l i)) → ∀ r j, j + r = tn T → ∀ h3, Fr [101] h2 h3 → (∀ i, i < j → h3.1 101 0 (6 * k + i) = nN (chS T R k i)) → (∀ l, l < k → ∀ i, i < tn T → h3.1 101 0 (6 * l + i) = nN (chS T R l i)) → Ok (q_M_fillsChances_L60 sc h3 (nN k) (nN j)) (fun h' => Fr MQQ h h' ∧ ∀ l, l < 2 ^ tn T → ∀ i, i < tn T → h'.1 101 0 (6 * l + i) = nN (chS T R l i)) := by
        intro h2 A2 O2 F2 tab2 r
        induction r with
        | zero =>
          intro j hj h3 F3 t1 t2
          rw [Nat.add_zero] at hj
          subst hj
          have A3 := MA_fr F3 rfl A2
          obtain ⟨s1, s2, s3, -⟩ := A3
          rw [an_mk] at s3
          rw [q_M_fillsChances_L60_eq]
          simp (disch := omega) only [L_0, L_1, L_2, L_3, L_4, L_5, L_6, L_7, L_8, L_9, L_10, L_11, L_12, L_13, L_14, L_15, L_16, L_17, L_18, L_19, L_20, L_21, L_22, L_23, L_24, L_25, L_26, L_27, L_28, L_29, L_30, L_31, L_32, L_33, L_34, L_35, L_40, L_41, L_42, L_43, L_44, L_45, L_47, L_48, L_50, L_53, L_57, L_59, L_60, L_61, L_63, L_64, L_97, L_100, L_101, L_102, L_103, L_122, L_130, L_216, L_255, L_364, L_400, L_402, L_420, L_728, L_768, L_999, L_1000, L_1093, L_1872, L_2000, L_9999, L_12345, L_252645135, L_858993459, L_1103515245, L_1431655765, Lm_1, Lm_2, Lm_8, N_zero, N_cast, N_add, N_mul, N_sub, N_addM, N_lt_tp, N_lt_fp, N_le_tp, N_le_fp, N_eq_tp, N_eq_fp, MN_ltp, MN_lep, NM_ltp, NM_lep, NM_eqp, MN_eqp, MM_lt_tp, MM_lt_fp, MM_le_tp, MM_le_fp, MM_eq_tp, MM_eq_fp, N_cl, N_in_t, N_in_f, M_in, N_div, N_rem, N_nb0, N_nb1, cond_true, cond_false, Bool.not_true, Bool.not_false, Bool.and_true, Bool.true_and, Bool.and_false, Bool.false_and, decide_true, decide_false, Option.bind_some, Option.bind_none, s2, s3]
          refine ih (k + 1) (by omega) h3 (Fr_trans F2 (Fr_mono F3 rfl)) fun l hl i hi => ?_
          by_cases w : l = k
          · rw [w]; exact t1 i hi
          · exact t2 l (by omega) i hi
        | succ r ih3 =>
          intro j hj h3 F3 t1 t2
          have A3 := MA_fr F3 rfl A2
          have O3 := fO_fr F3 rfl O2
          have s1 := A3.1
          have s2 := A3.2.1
          have s3 := A3.2.2.1
          rw [an_mk] at s3
          have cb := chS_10 C.1 C.2.1 k j
          rw [q_M_fillsChances_L60_eq]
          simp (disch := omega) only [L_0, L_1, L_2, L_3, L_4, L_5, L_6, L_7, L_8, L_9, L_10, L_11, L_12, L_13, L_14, L_15, L_16, L_17, L_18, L_19, L_20, L_21, L_22, L_23, L_24, L_25, L_26, L_27, L_28, L_29, L_30, L_31, L_32, L_33, L_34, L_35, L_40, L_41, L_42, L_43, L_44, L_45, L_47, L_48, L_50, L_53, L_57, L_59, L_60, L_61, L_63, L_64, L_97, L_100, L_101, L_102, L_103, L_122, L_130, L_216, L_255, L_364, L_400, L_402, L_420, L_728, L_768, L_999, L_1000, L_1093, L_1872, L_2000, L_9999, L_12345, L_252645135, L_858993459, L_1103515245, L_1431655765, Lm_1, Lm_2, Lm_8, N_zero, N_cast, N_add, N_mul, N_sub, N_addM, N_lt_tp, N_lt_fp, N_le_tp, N_le_fp, N_eq_tp, N_eq_fp, MN_ltp, MN_lep, NM_ltp, NM_lep, NM_eqp, MN_eqp, MM_lt_tp, MM_lt_fp, MM_le_tp, MM_le_fp, MM_eq_tp, MM_eq_fp, N_cl, N_in_t, N_in_f, M_in, N_div, N_rem, N_nb0, N_nb1, cond_true, cond_false, Bool.not_true, Bool.not_false, Bool.and_true, Bool.true_and, Bool.and_false, Bool.false_and, decide_true, decide_false, Option.bind_some, Option.bind_none, s2, s3, M_chanceOf (sc := sc) hA A3 O3 (show j < an (mkA T (rwith R (rlf R) k)) by rw [an_mk]; omega)]
          refine ih3 (j + 1) (by omega) _ (Fr_trans F3 (Fr_iu rfl)) (fun i hi => ?_) (fun l hl i hi => ?_)
          · by_cases w : i = j
            · rw [w, iu_at]; rfl
            · rw [iu_ne (by omega)]; exact t1 i (by omega)
          · rw [iu_ne (by omega)]; exact t2 l hl i hi
      have second : ∀ r j, j + r = tn T → ∀ h2, Fr [96, 1049, 1050] h' h2 → (∀ i, i < tn T → h2.1 96 0 i = nN (rpl R i)) → (∀ i, i < tn T → h2.1 96 0 (6 + i) = ovI (if i < j ∧ tb k i = 1 then 0 else rov R i)) → h2.1 96 0 12 = nN (rlf R) → h2.1 21 0 50 = nN 0 → Ok (q_M_fillsChances_L16 sc h2 (nN k) (nN j)) (fun h' => Fr MQQ h h' ∧ ∀ l, l < 2 ^ tn T → ∀ i, i < tn T → h'.1 101 0 (6 * l + i) = nN (chS T R l i)) := by
        intro r
        induction r with
        | zero =>
          intro j hj h2 F2 t1 t2 t3 t4
          rw [Nat.add_zero] at hj
          subst hj
          have C2 := CoreM C' (Fr_mono F2 rfl)
          obtain ⟨a1, a2, a3, -⟩ := C2.2.2.2.2.1
          have r2 : Row h2 96 0 T (rwith R (rlf R) k) := by
            refine ⟨fun i hi => by rw [Nat.zero_add]; exact t1 i hi, fun i hi => ?_, by rw [Nat.zero_add]; exact t3⟩
            rw [Nat.zero_add, t2 i hi]
            show _ = ovI (if tb k i = 1 then 0 else rov R i)
            by_cases w : tb k i = 1
            · rw [if_pos ⟨hi, w⟩, if_pos w]
            · rw [if_neg (fun y => w y.2), if_neg w]
          have A2 := MA_now C' F2 rfl rfl hR r2
          rw [q_M_fillsChances_L16_eq]
          simp (disch := omega) only [L_0, L_1, L_2, L_3, L_4, L_5, L_6, L_7, L_8, L_9, L_10, L_11, L_12, L_13, L_14, L_15, L_16, L_17, L_18, L_19, L_20, L_21, L_22, L_23, L_24, L_25, L_26, L_27, L_28, L_29, L_30, L_31, L_32, L_33, L_34, L_35, L_40, L_41, L_42, L_43, L_44, L_45, L_47, L_48, L_50, L_53, L_57, L_59, L_60, L_61, L_63, L_64, L_97, L_100, L_101, L_102, L_103, L_122, L_130, L_216, L_255, L_364, L_400, L_402, L_420, L_728, L_768, L_999, L_1000, L_1093, L_1872, L_2000, L_9999, L_12345, L_252645135, L_858993459, L_1103515245, L_1431655765, Lm_1, Lm_2, Lm_8, N_zero, N_cast, N_add, N_mul, N_sub, N_addM, N_lt_tp, N_lt_fp, N_le_tp, N_le_fp, N_eq_tp, N_eq_fp, MN_ltp, MN_lep, NM_ltp, NM_lep, NM_eqp, MN_eqp, MM_lt_tp, MM_lt_fp, MM_le_tp, MM_le_fp, MM_eq_tp, MM_eq_fp, N_cl, N_in_t, N_in_f, M_in, N_div, N_rem, N_nb0, N_nb1, cond_true, cond_false, Bool.not_true, Bool.not_false, Bool.and_true, Bool.true_and, Bool.and_false, Bool.false_and, decide_true, decide_false, Option.bind_some, Option.bind_none, a2, a3]
          refine Ok_bind (M_fillsOut hA A2 (Nat.zero_le _) t4) ?_
          rintro h3 ⟨F3, O3⟩
          have FF : Fr ([96, 1049, 1050] ++ SCR) h' h3 := Fr_trans (Fr_mono F2 rfl) (Fr_mono F3 rfl)
          have tab3 : ∀ l, l < k → ∀ i, i < tn T → h3.1 101 0 (6 * l + i) = nN (chS T R l i) := fun l hl i hi => (Fr_i FF (by rfl)).trans (tab l hl i hi)
          exact third h3 (MA_fr F3 rfl A2) O3 (Fr_trans F' (Fr_mono FF rfl)) tab3 (tn T) 0 (Nat.zero_add _) h3 (Fr_refl _ _) (fun i hi => absurd hi (Nat.not_lt_zero _)) tab3
        | succ r ih2 =>
          intro j hj h2 F2 t1 t2 t3 t4
          have C2 := CoreM C' (Fr_mono F2 rfl)
          obtain ⟨a1, a2, a3, -⟩ := C2.2.2.2.2.1
          have gt := bt_get k (by omega) j (by omega)
          rw [q_M_fillsChances_L16_eq]
          by_cases w : tb k j = 1
          · simp (disch := omega) only [L_0, L_1, L_2, L_3, L_4, L_5, L_6, L_7, L_8, L_9, L_10, L_11, L_12, L_13, L_14, L_15, L_16, L_17, L_18, L_19, L_20, L_21, L_22, L_23, L_24, L_25, L_26, L_27, L_28, L_29, L_30, L_31, L_32, L_33, L_34, L_35, L_40, L_41, L_42, L_43, L_44, L_45, L_47, L_48, L_50, L_53, L_57, L_59, L_60, L_61, L_63, L_64, L_97, L_100, L_101, L_102, L_103, L_122, L_130, L_216, L_255, L_364, L_400, L_402, L_420, L_728, L_768, L_999, L_1000, L_1093, L_1872, L_2000, L_9999, L_12345, L_252645135, L_858993459, L_1103515245, L_1431655765, Lm_1, Lm_2, Lm_8, N_zero, N_cast, N_add, N_mul, N_sub, N_addM, N_lt_tp, N_lt_fp, N_le_tp, N_le_fp, N_eq_tp, N_eq_fp, MN_ltp, MN_lep, NM_ltp, NM_lep, NM_eqp, MN_eqp, MM_lt_tp, MM_lt_fp, MM_le_tp, MM_le_fp, MM_eq_tp, MM_eq_fp, N_cl, N_in_t, N_in_f, M_in, N_div, N_rem, N_nb0, N_nb1, cond_true, cond_false, Bool.not_true, Bool.not_false, Bool.and_true, Bool.true_and, Bool.and_false, Bool.false_and, decide_true, decide_false, Option.bind_some, Option.bind_none, a2, a3, gt, w]
            refine ih2 (j + 1) (by omega) _ (Fr_trans F2 (Fr_iu rfl)) (fun i hi => by rw [iu_ne (by omega)]; exact t1 i hi) (fun i hi => ?_) (by rw [iu_ne (by omega)]; exact t3) (by rw [iu_nt (by decide)]; exact t4)
            by_cases z : i = j
            · rw [z, iu_at, if_pos ⟨by omega, w⟩]
              rfl
            · rw [iu_ne (by omega), t2 i hi]
              by_cases z2 : i < j ∧ tb k i = 1
              · rw [if_pos z2, if_pos ⟨by omega, z2.2⟩]
              · rw [if_neg z2, if_neg (fun y => z2 ⟨by omega, y.2⟩)]
          · have w0 : tb k j = 0 := by have := tb_lt k j; omega
            simp (disch := omega) only [L_0, L_1, L_2, L_3, L_4, L_5, L_6, L_7, L_8, L_9, L_10, L_11, L_12, L_13, L_14, L_15, L_16, L_17, L_18, L_19, L_20, L_21, L_22, L_23, L_24, L_25, L_26, L_27, L_28, L_29, L_30, L_31, L_32, L_33, L_34, L_35, L_40, L_41, L_42, L_43, L_44, L_45, L_47, L_48, L_50, L_53, L_57, L_59, L_60, L_61, L_63, L_64, L_97, L_100, L_101, L_102, L_103, L_122, L_130, L_216, L_255, L_364, L_400, L_402, L_420, L_728, L_768, L_999, L_1000, L_1093, L_1872, L_2000, L_9999, L_12345, L_252645135, L_858993459, L_1103515245, L_1431655765, Lm_1, Lm_2, Lm_8, N_zero, N_cast, N_add, N_mul, N_sub, N_addM, N_lt_tp, N_lt_fp, N_le_tp, N_le_fp, N_eq_tp, N_eq_fp, MN_ltp, MN_lep, NM_ltp, NM_lep, NM_eqp, MN_eqp, MM_lt_tp, MM_lt_fp, MM_le_tp, MM_le_fp, MM_eq_tp, MM_eq_fp, N_cl, N_in_t, N_in_f, M_in, N_div, N_rem, N_nb0, N_nb1, cond_true, cond_false, Bool.not_true, Bool.not_false, Bool.and_true, Bool.true_and, Bool.and_false, Bool.false_and, decide_true, decide_false, Option.bind_some, Option.bind_none, a2, a3, gt, w0]
            refine ih2 (j + 1) (by omega) h2 F2 t1 (fun i hi => ?_) t3 t4
            rw [t2 i hi]
            by_cases z : i = j
            · rw [z, if_neg (fun y => absurd y.1 (Nat.lt_irrefl _)), if_neg (fun y => w y.2)]
            · by_cases z2 : i < j ∧ tb k i = 1
              · rw [if_pos z2, if_pos ⟨by omega, z2.2⟩]
              · rw [if_neg z2, if_neg (fun y => z2 ⟨by omega, y.2⟩)]
      refine second (tn T) 0 (Nat.zero_add _) h1 F1 (fun i hi => by have := r1.1 i hi; rwa [Nat.zero_add] at this) (fun i hi => ?_) (by have := r1.2.2; rwa [Nat.zero_add] at this) g3
      have := r1.2.1 i hi
      rw [Nat.zero_add] at this
      rw [this, if_neg (fun y => absurd y.1 (Nat.not_lt_zero _))]
  rw [q_M_fillsChances_eq]
  exact key (2 ^ tn T) 0 (Nat.zero_add _) h (Fr_refl _ _) (fun l hl => absurd hl (Nat.not_lt_zero _))
theorem N_two (h : wb_H) : nN 1 = nN 1 := rfl
theorem c_rests {h : wb_H} (I : Inv h B) (a : Int32) : Same (fun h => q_X_rests sc h a) (fun h => q_M_rests sc h a) h B := by
  obtain ⟨T, R, v, q, s, C, D⟩ := I
  have n6 := C.1.1
  have p64 := pow2_64 n6
  have pp := Nat.pow_pos (n := tn T) (show 0 < 2 by decide)
  have rl := C.2.1.2.2.2.2
  have ct := cnS_le T R (2 ^ tn T)
  have stop : ∀ k, 2 ≤ k → k ≤ 2147483648 → Same (fun h => q_X_rests sc h (nM k)) (fun h => q_M_rests sc h (nM k)) h B := fun k h1 h2 => by
    refine pure_query (a := nM 1) C D ?_ ?_
    · show q_X_rests sc h (nM k) = _
      rw [q_X_rests_eq]
      simp (disch := omega) only [L_0, L_1, L_2, L_3, L_4, L_5, L_6, L_7, L_8, L_9, L_10, L_11, L_12, L_13, L_14, L_15, L_16, L_17, L_18, L_19, L_20, L_21, L_22, L_23, L_24, L_25, L_26, L_27, L_28, L_29, L_30, L_31, L_32, L_33, L_34, L_35, L_40, L_41, L_42, L_43, L_44, L_45, L_47, L_48, L_50, L_53, L_57, L_59, L_60, L_61, L_63, L_64, L_97, L_100, L_101, L_102, L_103, L_122, L_130, L_216, L_255, L_364, L_400, L_402, L_420, L_728, L_768, L_999, L_1000, L_1093, L_1872, L_2000, L_9999, L_12345, L_252645135, L_858993459, L_1103515245, L_1431655765, Lm_1, Lm_2, Lm_8, N_zero, N_cast, N_add, N_mul, N_sub, N_addM, N_lt_tp, N_lt_fp, N_le_tp, N_le_fp, N_eq_tp, N_eq_fp, MN_ltp, MN_lep, NM_ltp, NM_lep, NM_eqp, MN_eqp, MM_lt_tp, MM_lt_fp, MM_le_tp, MM_le_fp, MM_eq_tp, MM_eq_fp, N_cl, N_in_t, N_in_f, M_in, N_div, N_rem, N_nb0, N_nb1, cond_true, cond_false, Bool.not_true, Bool.not_false, Bool.and_true, Bool.true_and, Bool.and_false, Bool.false_and, decide_true, decide_false, Option.bind_some, Option.bind_none]
    · show Ok (q_M_rests sc h (nM k)) _
      rw [q_M_rests_eq]
      simp (disch := omega) only [L_0, L_1, L_2, L_3, L_4, L_5, L_6, L_7, L_8, L_9, L_10, L_11, L_12, L_13, L_14, L_15, L_16, L_17, L_18, L_19, L_20, L_21, L_22, L_23, L_24, L_25, L_26, L_27, L_28, L_29, L_30, L_31, L_32, L_33, L_34, L_35, L_40, L_41, L_42, L_43, L_44, L_45, L_47, L_48, L_50, L_53, L_57, L_59, L_60, L_61, L_63, L_64, L_97, L_100, L_101, L_102, L_103, L_122, L_130, L_216, L_255, L_364, L_400, L_402, L_420, L_728, L_768, L_999, L_1000, L_1093, L_1872, L_2000, L_9999, L_12345, L_252645135, L_858993459, L_1103515245, L_1431655765, Lm_1, Lm_2, Lm_8, N_zero, N_cast, N_add, N_mul, N_sub, N_addM, N_lt_tp, N_lt_fp, N_le_tp, N_le_fp, N_eq_tp, N_eq_fp, MN_ltp, MN_lep, NM_ltp, NM_lep, NM_eqp, MN_eqp, MM_lt_tp, MM_lt_fp, MM_le_tp, MM_le_fp, MM_eq_tp, MM_eq_fp, N_cl, N_in_t, N_in_f, M_in, N_div, N_rem, N_nb0, N_nb1, cond_true, cond_false, Bool.not_true, Bool.not_false, Bool.and_true, Bool.true_and, Bool.and_false, Bool.false_and, decide_true, decide_false, Option.bind_some, Option.bind_none]
      exact Ok_some ⟨rfl, Fr_refl _ _⟩
  have after : ∀ (a out : Int32), (nM 1 ≤ a) = True → (∀ h1, Rest h1 T R → (bif !decide (a = nM 1) then bif decide (h1.1 20 0 14 ≤ a) then some (nM 1, h1) else bif wb_in a 64 then some (h1.1 64 0 a.toNatClampNeg, h1) else none else some (h1.1 20 0 14, h1)) = some (out, h1)) → Ok (q_X_rests sc h a) (fun r => r.1 = out ∧ Fr XQQ h r.2 ∧ Cache r.2 T R q) := by
    intro a out hle hout
    rw [q_X_rests_eq]
    rcases D.2.2 with e | e
    · simp (disch := omega) only [L_0, L_1, L_2, L_3, L_4, L_5, L_6, L_7, L_8, L_9, L_10, L_11, L_12, L_13, L_14, L_15, L_16, L_17, L_18, L_19, L_20, L_21, L_22, L_23, L_24, L_25, L_26, L_27, L_28, L_29, L_30, L_31, L_32, L_33, L_34, L_35, L_40, L_41, L_42, L_43, L_44, L_45, L_47, L_48, L_50, L_53, L_57, L_59, L_60, L_61, L_63, L_64, L_97, L_100, L_101, L_102, L_103, L_122, L_130, L_216, L_255, L_364, L_400, L_402, L_420, L_728, L_768, L_999, L_1000, L_1093, L_1872, L_2000, L_9999, L_12345, L_252645135, L_858993459, L_1103515245, L_1431655765, Lm_1, Lm_2, Lm_8, hle, e, cond_true, cond_false, Bool.not_true, Bool.not_false, Bool.and_true, Bool.true_and, Bool.and_false, Bool.false_and, decide_true, decide_false, Option.bind_some, Option.bind_none, decide_true]
      refine Ok_bind (X_findRests C D) ?_
      rintro h1 ⟨F1, D1, R1⟩
      exact ⟨_, hout h1 R1, rfl, F1, D1⟩
    · have z : (h.1 20 0 14 = nM 1) = False := by rw [e.1]; exact NM_eqp (by omega) (by decide) (by decide)
      simp (disch := omega) only [L_0, L_1, L_2, L_3, L_4, L_5, L_6, L_7, L_8, L_9, L_10, L_11, L_12, L_13, L_14, L_15, L_16, L_17, L_18, L_19, L_20, L_21, L_22, L_23, L_24, L_25, L_26, L_27, L_28, L_29, L_30, L_31, L_32, L_33, L_34, L_35, L_40, L_41, L_42, L_43, L_44, L_45, L_47, L_48, L_50, L_53, L_57, L_59, L_60, L_61, L_63, L_64, L_97, L_100, L_101, L_102, L_103, L_122, L_130, L_216, L_255, L_364, L_400, L_402, L_420, L_728, L_768, L_999, L_1000, L_1093, L_1872, L_2000, L_9999, L_12345, L_252645135, L_858993459, L_1103515245, L_1431655765, Lm_1, Lm_2, Lm_8, hle, z, cond_true, cond_false, Bool.not_true, Bool.not_false, Bool.and_true, Bool.true_and, Bool.and_false, Bool.false_and, decide_true, decide_false, Option.bind_some, Option.bind_none, decide_false, decide_true]
      exact ⟨_, hout h e, rfl, Fr_refl _ _, D⟩
  have side : ∀ (a out : Int32) h0, Core h0 T R v q s B → (nM 1 ≤ a) = True → (a = nM 1 ∧ out = nN (cnS T R (2 ^ tn T)) ∨ (∃ m, a = nN m ∧ m ≤ 2147483647 ∧ ((cnS T R (2 ^ tn T) ≤ m ∧ out = nM 1) ∨ ∃ set, set < 2 ^ tn T ∧ gdS T R set ∧ cnS T R set = m ∧ out = nN set))) → Ok (q_M_rests sc h0 a) (fun r => r.1 = out ∧ Fr MQQ h0 r.2) := by
    intro a out h0 C0 hle cs
    rw [q_M_rests_eq]
    simp only [L_0, L_1, L_2, L_3, L_4, L_5, L_6, L_7, L_8, L_9, L_10, L_11, L_12, L_13, L_14, L_15, L_16, L_17, L_18, L_19, L_20, L_21, L_22, L_23, L_24, L_25, L_26, L_27, L_28, L_29, L_30, L_31, L_32, L_33, L_34, L_35, L_40, L_41, L_42, L_43, L_44, L_45, L_47, L_48, L_50, L_53, L_57, L_59, L_60, L_61, L_63, L_64, L_97, L_100, L_101, L_102, L_103, L_122, L_130, L_216, L_255, L_364, L_400, L_402, L_420, L_728, L_768, L_999, L_1000, L_1093, L_1872, L_2000, L_9999, L_12345, L_252645135, L_858993459, L_1103515245, L_1431655765, Lm_1, Lm_2, Lm_8, hle, decide_true, cond_true]
    refine Ok_bind (M_fillsCh C0) ?_
    rintro h1 ⟨F1, tab⟩
    have C1 := CoreM C0 F1
    have S12 := C1.2.2.2.2.2.2.2.1.2.1.2.2
    rw [Nat.zero_add] at S12
    have key : ∀ r k, k + r = 2 ^ tn T → (∀ set, set < k → gdS T R set → a ≠ nN (cnS T R set)) → q_M_rests_L15 sc h1 a (nN (cnS T R k)) (nN k) = some (out, h1) := by
      intro r
      induction r with
      | zero =>
        intro k hk ne
        rw [Nat.add_zero] at hk
        subst hk
        rw [q_M_rests_L15_eq, M_allHouses C1]
        rcases cs with ⟨x1, x2⟩ | ⟨m, x1, x2, ⟨x3, x4⟩ | ⟨set, x3, x4, x5, x6⟩⟩
        · rw [x1, x2]
          simp (disch := omega) only [L_0, L_1, L_2, L_3, L_4, L_5, L_6, L_7, L_8, L_9, L_10, L_11, L_12, L_13, L_14, L_15, L_16, L_17, L_18, L_19, L_20, L_21, L_22, L_23, L_24, L_25, L_26, L_27, L_28, L_29, L_30, L_31, L_32, L_33, L_34, L_35, L_40, L_41, L_42, L_43, L_44, L_45, L_47, L_48, L_50, L_53, L_57, L_59, L_60, L_61, L_63, L_64, L_97, L_100, L_101, L_102, L_103, L_122, L_130, L_216, L_255, L_364, L_400, L_402, L_420, L_728, L_768, L_999, L_1000, L_1093, L_1872, L_2000, L_9999, L_12345, L_252645135, L_858993459, L_1103515245, L_1431655765, Lm_1, Lm_2, Lm_8, N_zero, N_cast, N_add, N_mul, N_sub, N_addM, N_lt_tp, N_lt_fp, N_le_tp, N_le_fp, N_eq_tp, N_eq_fp, MN_ltp, MN_lep, NM_ltp, NM_lep, NM_eqp, MN_eqp, MM_lt_tp, MM_lt_fp, MM_le_tp, MM_le_fp, MM_eq_tp, MM_eq_fp, N_cl, N_in_t, N_in_f, M_in, N_div, N_rem, N_nb0, N_nb1, cond_true, cond_false, Bool.not_true, Bool.not_false, Bool.and_true, Bool.true_and, Bool.and_false, Bool.false_and, decide_true, decide_false, Option.bind_some, Option.bind_none]
        · rw [x1, x4]
          simp (disch := omega) only [L_0, L_1, L_2, L_3, L_4, L_5, L_6, L_7, L_8, L_9, L_10, L_11, L_12, L_13, L_14, L_15, L_16, L_17, L_18, L_19, L_20, L_21, L_22, L_23, L_24, L_25, L_26, L_27, L_28, L_29, L_30, L_31, L_32, L_33, L_34, L_35, L_40, L_41, L_42, L_43, L_44, L_45, L_47, L_48, L_50, L_53, L_57, L_59, L_60, L_61, L_63, L_64, L_97, L_100, L_101, L_102, L_103, L_122, L_130, L_216, L_255, L_364, L_400, L_402, L_420, L_728, L_768, L_999, L_1000, L_1093, L_1872, L_2000, L_9999, L_12345, L_252645135, L_858993459, L_1103515245, L_1431655765, Lm_1, Lm_2, Lm_8, N_zero, N_cast, N_add, N_mul, N_sub, N_addM, N_lt_tp, N_lt_fp, N_le_tp, N_le_fp, N_eq_tp, N_eq_fp, MN_ltp, MN_lep, NM_ltp, NM_lep, NM_eqp, MN_eqp, MM_lt_tp, MM_lt_fp, MM_le_tp, MM_le_fp, MM_eq_tp, MM_eq_fp, N_cl, N_in_t, N_in_f, M_in, N_div, N_rem, N_nb0, N_nb1, cond_true, cond_false, Bool.not_true, Bool.not_false, Bool.and_true, Bool.true_and, Bool.and_false, Bool.false_and, decide_true, decide_false, Option.bind_some, Option.bind_none]
        · exact absurd (by rw [x1, x5]) (ne set x3 x4)
      | succ r ih =>
        intro k hk ne
        have al : k &&& rlf R ≤ k := Nat.and_le_left
        have cl := cnS_le T R k
        have skip : ¬ gdS T R k → q_M_rests_L15 sc h1 a (nN (cnS T R k)) (nN (k + 1)) = some (out, h1) := fun ng => by
          have := ih (k + 1) (by omega) (fun set hset gs => by
            by_cases w : set = k
            · rw [w] at gs; exact absurd gs ng
            · exact ne set (by omega) gs)
          rw [cnS_f ng] at this
          exact this
        rw [q_M_rests_L15_eq, M_allHouses C1]
        by_cases z : k &&& rlf R = 0
        · obtain ⟨g, hg, hr, hg2⟩ := M_resting (sc := sc) C1 tab (show k < 2 ^ tn T by omega)
          simp (disch := omega) only [L_0, L_1, L_2, L_3, L_4, L_5, L_6, L_7, L_8, L_9, L_10, L_11, L_12, L_13, L_14, L_15, L_16, L_17, L_18, L_19, L_20, L_21, L_22, L_23, L_24, L_25, L_26, L_27, L_28, L_29, L_30, L_31, L_32, L_33, L_34, L_35, L_40, L_41, L_42, L_43, L_44, L_45, L_47, L_48, L_50, L_53, L_57, L_59, L_60, L_61, L_63, L_64, L_97, L_100, L_101, L_102, L_103, L_122, L_130, L_216, L_255, L_364, L_400, L_402, L_420, L_728, L_768, L_999, L_1000, L_1093, L_1872, L_2000, L_9999, L_12345, L_252645135, L_858993459, L_1103515245, L_1431655765, Lm_1, Lm_2, Lm_8, N_zero, N_cast, N_add, N_mul, N_sub, N_addM, N_lt_tp, N_lt_fp, N_le_tp, N_le_fp, N_eq_tp, N_eq_fp, MN_ltp, MN_lep, NM_ltp, NM_lep, NM_eqp, MN_eqp, MM_lt_tp, MM_lt_fp, MM_le_tp, MM_le_fp, MM_eq_tp, MM_eq_fp, N_cl, N_in_t, N_in_f, M_in, N_div, N_rem, N_nb0, N_nb1, cond_true, cond_false, Bool.not_true, Bool.not_false, Bool.and_true, Bool.true_and, Bool.and_false, Bool.false_and, decide_true, decide_false, Option.bind_some, Option.bind_none, S12, bt_and2 k (show k < 64 by omega) (rlf R) (show rlf R < 64 by omega), z, hr]
          by_cases y : g = 1
          · have gd : gdS T R k := ⟨z, hg2.mp y⟩
            subst y
            simp (disch := omega) only [L_0, L_1, L_2, L_3, L_4, L_5, L_6, L_7, L_8, L_9, L_10, L_11, L_12, L_13, L_14, L_15, L_16, L_17, L_18, L_19, L_20, L_21, L_22, L_23, L_24, L_25, L_26, L_27, L_28, L_29, L_30, L_31, L_32, L_33, L_34, L_35, L_40, L_41, L_42, L_43, L_44, L_45, L_47, L_48, L_50, L_53, L_57, L_59, L_60, L_61, L_63, L_64, L_97, L_100, L_101, L_102, L_103, L_122, L_130, L_216, L_255, L_364, L_400, L_402, L_420, L_728, L_768, L_999, L_1000, L_1093, L_1872, L_2000, L_9999, L_12345, L_252645135, L_858993459, L_1103515245, L_1431655765, Lm_1, Lm_2, Lm_8, N_zero, N_cast, N_add, N_mul, N_sub, N_addM, N_lt_tp, N_lt_fp, N_le_tp, N_le_fp, N_eq_tp, N_eq_fp, MN_ltp, MN_lep, NM_ltp, NM_lep, NM_eqp, MN_eqp, MM_lt_tp, MM_lt_fp, MM_le_tp, MM_le_fp, MM_eq_tp, MM_eq_fp, N_cl, N_in_t, N_in_f, M_in, N_div, N_rem, N_nb0, N_nb1, cond_true, cond_false, Bool.not_true, Bool.not_false, Bool.and_true, Bool.true_and, Bool.and_false, Bool.false_and, decide_true, decide_false, Option.bind_some, Option.bind_none]
            have goon : a ≠ nN (cnS T R k) → q_M_rests_L15 sc h1 a (nN (cnS T R k + 1)) (nN (k + 1)) = some (out, h1) := fun w => by
              have := ih (k + 1) (by omega) (fun set hset gs => by
                by_cases w2 : set = k
                · rw [w2]; exact w
                · exact ne set (by omega) gs)
              rw [cnS_t gd] at this
              exact this
            by_cases w : a = nN (cnS T R k)
            · rw [w]
              simp only [decide_true, Bool.not_true, cond_false]
              rcases cs with ⟨x1, x2⟩ | ⟨m, x1, x2, ⟨x3, x4⟩ | ⟨set, x3, x4, x5, x6⟩⟩
              · rw [w] at x1
                exact absurd x1 (of_decide_eq_false (NM_eq (by omega) (by decide) (by decide)))
              · rw [w] at x1
                have := N_inj (by omega) x2 x1
                have := cnS_lt gd (show k < 2 ^ tn T by omega)
                omega
              · rw [w] at x1
                have e := N_inj (by omega) x2 x1
                have : set = k := by
                  rcases Nat.lt_trichotomy set k with l | l | l
                  · have := cnS_lt x4 l; omega
                  · exact l
                  · have := cnS_lt gd l; omega
                rw [x6, this]
            · have w2 : (nN (cnS T R k) = a) = False := eq_false (fun y => w y.symm)
              simp only [w2, decide_false, Bool.not_false, cond_true]
              exact goon w
          · have g0 : g = 0 := by omega
            subst g0
            simp (disch := omega) only [L_0, L_1, L_2, L_3, L_4, L_5, L_6, L_7, L_8, L_9, L_10, L_11, L_12, L_13, L_14, L_15, L_16, L_17, L_18, L_19, L_20, L_21, L_22, L_23, L_24, L_25, L_26, L_27, L_28, L_29, L_30, L_31, L_32, L_33, L_34, L_35, L_40, L_41, L_42, L_43, L_44, L_45, L_47, L_48, L_50, L_53, L_57, L_59, L_60, L_61, L_63, L_64, L_97, L_100, L_101, L_102, L_103, L_122, L_130, L_216, L_255, L_364, L_400, L_402, L_420, L_728, L_768, L_999, L_1000, L_1093, L_1872, L_2000, L_9999, L_12345, L_252645135, L_858993459, L_1103515245, L_1431655765, Lm_1, Lm_2, Lm_8, N_zero, N_cast, N_add, N_mul, N_sub, N_addM, N_lt_tp, N_lt_fp, N_le_tp, N_le_fp, N_eq_tp, N_eq_fp, MN_ltp, MN_lep, NM_ltp, NM_lep, NM_eqp, MN_eqp, MM_lt_tp, MM_lt_fp, MM_le_tp, MM_le_fp, MM_eq_tp, MM_eq_fp, N_cl, N_in_t, N_in_f, M_in, N_div, N_rem, N_nb0, N_nb1, cond_true, cond_false, Bool.not_true, Bool.not_false, Bool.and_true, Bool.true_and, Bool.and_false, Bool.false_and, decide_true, decide_false, Option.bind_some, Option.bind_none]
            exact skip (fun gd => y (hg2.mpr gd.2))
        · simp (disch := omega) only [L_0, L_1, L_2, L_3, L_4, L_5, L_6, L_7, L_8, L_9, L_10, L_11, L_12, L_13, L_14, L_15, L_16, L_17, L_18, L_19, L_20, L_21, L_22, L_23, L_24, L_25, L_26, L_27, L_28, L_29, L_30, L_31, L_32, L_33, L_34, L_35, L_40, L_41, L_42, L_43, L_44, L_45, L_47, L_48, L_50, L_53, L_57, L_59, L_60, L_61, L_63, L_64, L_97, L_100, L_101, L_102, L_103, L_122, L_130, L_216, L_255, L_364, L_400, L_402, L_420, L_728, L_768, L_999, L_1000, L_1093, L_1872, L_2000, L_9999, L_12345, L_252645135, L_858993459, L_1103515245, L_1431655765, Lm_1, Lm_2, Lm_8, N_zero, N_cast, N_add, N_mul, N_sub, N_addM, N_lt_tp, N_lt_fp, N_le_tp, N_le_fp, N_eq_tp, N_eq_fp, MN_ltp, MN_lep, NM_ltp, NM_lep, NM_eqp, MN_eqp, MM_lt_tp, MM_lt_fp, MM_le_tp, MM_le_fp, MM_eq_tp, MM_eq_fp, N_cl, N_in_t, N_in_f, M_in, N_div, N_rem, N_nb0, N_nb1, cond_true, cond_false, Bool.not_true, Bool.not_false, Bool.and_true, Bool.true_and, Bool.and_false, Bool.false_and, decide_true, decide_false, Option.bind_some, Option.bind_none, S12, bt_and2 k (show k < 64 by omega) (rlf R) (show rlf R < 64 by omega)]
          exact skip (fun gd => z gd.1)
    have := key (2 ^ tn T) 0 (Nat.zero_add _) (fun set hset => absurd hset (Nat.not_lt_zero _))
    exact ⟨_, this, rfl, F1⟩
  rcases NM_all a with ⟨m, rfl, hm⟩ | ⟨m, rfl, hm1, hm2⟩
  · have hle : (nM 1 ≤ nN m) = True := MN_lep (by decide) (by decide) hm
    by_cases z : cnS T R (2 ^ tn T) ≤ m
    · refine query (a := nM 1) C ?_ fun h0 C0 => side _ _ h0 C0 hle (Or.inr ⟨m, rfl, hm, Or.inl ⟨z, rfl⟩⟩)
      refine after _ _ hle fun h1 R1 => ?_
      simp (disch := omega) only [L_0, L_1, L_2, L_3, L_4, L_5, L_6, L_7, L_8, L_9, L_10, L_11, L_12, L_13, L_14, L_15, L_16, L_17, L_18, L_19, L_20, L_21, L_22, L_23, L_24, L_25, L_26, L_27, L_28, L_29, L_30, L_31, L_32, L_33, L_34, L_35, L_40, L_41, L_42, L_43, L_44, L_45, L_47, L_48, L_50, L_53, L_57, L_59, L_60, L_61, L_63, L_64, L_97, L_100, L_101, L_102, L_103, L_122, L_130, L_216, L_255, L_364, L_400, L_402, L_420, L_728, L_768, L_999, L_1000, L_1093, L_1872, L_2000, L_9999, L_12345, L_252645135, L_858993459, L_1103515245, L_1431655765, Lm_1, Lm_2, Lm_8, N_zero, N_cast, N_add, N_mul, N_sub, N_addM, N_lt_tp, N_lt_fp, N_le_tp, N_le_fp, N_eq_tp, N_eq_fp, MN_ltp, MN_lep, NM_ltp, NM_lep, NM_eqp, MN_eqp, MM_lt_tp, MM_lt_fp, MM_le_tp, MM_le_fp, MM_eq_tp, MM_eq_fp, N_cl, N_in_t, N_in_f, M_in, N_div, N_rem, N_nb0, N_nb1, cond_true, cond_false, Bool.not_true, Bool.not_false, Bool.and_true, Bool.true_and, Bool.and_false, Bool.false_and, decide_true, decide_false, Option.bind_some, Option.bind_none, R1.1]
    · obtain ⟨set, x1, x2, x3⟩ := cnS_ex (T := T) (R := R) (show m < cnS T R (2 ^ tn T) by omega)
      refine query (a := nN set) C ?_ fun h0 C0 => side _ _ h0 C0 hle (Or.inr ⟨m, rfl, hm, Or.inr ⟨set, x1, x2, x3, rfl⟩⟩)
      refine after _ _ hle fun h1 R1 => ?_
      have := R1.2 set x1 x2
      rw [x3] at this
      simp (disch := omega) only [L_0, L_1, L_2, L_3, L_4, L_5, L_6, L_7, L_8, L_9, L_10, L_11, L_12, L_13, L_14, L_15, L_16, L_17, L_18, L_19, L_20, L_21, L_22, L_23, L_24, L_25, L_26, L_27, L_28, L_29, L_30, L_31, L_32, L_33, L_34, L_35, L_40, L_41, L_42, L_43, L_44, L_45, L_47, L_48, L_50, L_53, L_57, L_59, L_60, L_61, L_63, L_64, L_97, L_100, L_101, L_102, L_103, L_122, L_130, L_216, L_255, L_364, L_400, L_402, L_420, L_728, L_768, L_999, L_1000, L_1093, L_1872, L_2000, L_9999, L_12345, L_252645135, L_858993459, L_1103515245, L_1431655765, Lm_1, Lm_2, Lm_8, N_zero, N_cast, N_add, N_mul, N_sub, N_addM, N_lt_tp, N_lt_fp, N_le_tp, N_le_fp, N_eq_tp, N_eq_fp, MN_ltp, MN_lep, NM_ltp, NM_lep, NM_eqp, MN_eqp, MM_lt_tp, MM_lt_fp, MM_le_tp, MM_le_fp, MM_eq_tp, MM_eq_fp, N_cl, N_in_t, N_in_f, M_in, N_div, N_rem, N_nb0, N_nb1, cond_true, cond_false, Bool.not_true, Bool.not_false, Bool.and_true, Bool.true_and, Bool.and_false, Bool.false_and, decide_true, decide_false, Option.bind_some, Option.bind_none, R1.1, this]
  · by_cases z : m = 1
    · subst z
      have hle : (nM 1 ≤ nM 1) = True := eq_true (by decide)
      refine query (a := nN (cnS T R (2 ^ tn T))) C ?_ fun h0 C0 => side _ _ h0 C0 hle (Or.inl ⟨rfl, rfl⟩)
      refine after _ _ hle fun h1 R1 => ?_
      simp (disch := omega) only [L_0, L_1, L_2, L_3, L_4, L_5, L_6, L_7, L_8, L_9, L_10, L_11, L_12, L_13, L_14, L_15, L_16, L_17, L_18, L_19, L_20, L_21, L_22, L_23, L_24, L_25, L_26, L_27, L_28, L_29, L_30, L_31, L_32, L_33, L_34, L_35, L_40, L_41, L_42, L_43, L_44, L_45, L_47, L_48, L_50, L_53, L_57, L_59, L_60, L_61, L_63, L_64, L_97, L_100, L_101, L_102, L_103, L_122, L_130, L_216, L_255, L_364, L_400, L_402, L_420, L_728, L_768, L_999, L_1000, L_1093, L_1872, L_2000, L_9999, L_12345, L_252645135, L_858993459, L_1103515245, L_1431655765, Lm_1, Lm_2, Lm_8, N_zero, N_cast, N_add, N_mul, N_sub, N_addM, N_lt_tp, N_lt_fp, N_le_tp, N_le_fp, N_eq_tp, N_eq_fp, MN_ltp, MN_lep, NM_ltp, NM_lep, NM_eqp, MN_eqp, MM_lt_tp, MM_lt_fp, MM_le_tp, MM_le_fp, MM_eq_tp, MM_eq_fp, N_cl, N_in_t, N_in_f, M_in, N_div, N_rem, N_nb0, N_nb1, cond_true, cond_false, Bool.not_true, Bool.not_false, Bool.and_true, Bool.true_and, Bool.and_false, Bool.false_and, decide_true, decide_false, Option.bind_some, Option.bind_none, R1.1]
    · exact stop m (by omega) hm2
end
