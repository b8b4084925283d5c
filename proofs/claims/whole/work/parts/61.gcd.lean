/-! Fractions that cannot be lessened. -/
theorem lz_toInt {a : Int} (h1 : -9223372036854775808 ≤ a) (h2 : a < 9223372036854775808) : (Int64.ofInt a).toInt = a := Int64.toInt_ofInt_of_le h1 h2
theorem lz_inj {a b : Int} (h1 : -9223372036854775808 ≤ a) (h2 : a < 9223372036854775808) (h3 : -9223372036854775808 ≤ b) (h4 : b < 9223372036854775808) (h : Int64.ofInt a = Int64.ofInt b) : a = b := by
  have := congrArg Int64.toInt h
  rwa [lz_toInt h1 h2, lz_toInt h3 h4] at this
theorem lz_lt {a b : Int} (h1 : -9223372036854775808 ≤ a) (h2 : a < 9223372036854775808) (h3 : -9223372036854775808 ≤ b) (h4 : b < 9223372036854775808) : Int64.ofInt a < Int64.ofInt b ↔ a < b := by
  rw [Int64.lt_iff_toInt_lt, lz_toInt h1 h2, lz_toInt h3 h4]
theorem lz_tdiv {a d : Int} (h1 : -2147483648 ≤ a) (h2 : a ≤ 2147483647) (h3 : 0 < d) (h4 : d ≤ 2147483647) : Int64.ofInt a / Int64.ofInt d = Int64.ofInt (a.tdiv d) := by
  have hb : (a.tdiv d).natAbs ≤ a.natAbs := by rw [Int.natAbs_tdiv]; exact Nat.div_le_self _ _
  apply Int64.toInt_inj.mp
  rw [Int64.toInt_div_of_ne_right _ _ (by
    intro h
    have := congrArg Int64.toInt h
    rw [lz_toInt (by omega) (by omega)] at this
    have e : (-1 : Int64).toInt = -1 := by decide
    rw [e] at this; omega), lz_toInt (by omega) (by omega), lz_toInt (by omega) (by omega), lz_toInt (by omega) (by omega)]
theorem iz_tdiv {a d : Int} (h1 : -2147483647 ≤ a) (h2 : a ≤ 2147483647) (h3 : 0 < d) (h4 : d ≤ 2147483647) : Int32.ofInt a / Int32.ofInt d = Int32.ofInt (a.tdiv d) := by
  have hb : (a.tdiv d).natAbs ≤ a.natAbs := by rw [Int.natAbs_tdiv]; exact Nat.div_le_self _ _
  apply Int32.toInt_inj.mp
  rw [Int32.toInt_div_of_ne_right _ _ (by
    intro h
    have := congrArg Int32.toInt h
    rw [iz_toInt (by omega) (by omega)] at this
    have e : (-1 : Int32).toInt = -1 := by decide
    rw [e] at this; omega), iz_toInt (by omega) (by omega), iz_toInt (by omega) (by omega), iz_toInt (by omega) (by omega)]
theorem lz_reml {a b : Nat} (ha : a ≤ 2147483647) (h0 : 0 < b) (hb : b ≤ 2147483647) : wb_reml (Int64.ofInt (a : Int)) (Int64.ofInt (b : Int)) = Int64.ofInt ((a % b : Nat) : Int) := by
  unfold wb_reml
  rw [lz_tdiv (by omega) (by omega) (by omega) (by omega), ← Int64.ofInt_mul, ← Int64.ofInt_sub]
  congr 1
  rw [Int.tdiv_eq_ediv_of_nonneg (by omega)]
  have := Int.mul_ediv_add_emod (a : Int) b
  rw [Int.mul_comm] at this
  omega
def fr (a : Int) (b g : Nat) : Int32 := Int32.ofInt ((if g = 0 then a else (b : Int)).tdiv ((Nat.gcd a.natAbs b : Nat) : Int))
theorem gcd_step (x y : Nat) : Nat.gcd x y = Nat.gcd y (x % y) := by rw [Nat.gcd_comm, Nat.gcd_rec y x, Nat.gcd_comm]
section
variable {sc : wb_X} {h : wb_H}
theorem M_common_L : ∀ y, y ≤ 2147483647 → ∀ x, x ≤ 2147483647 → q_M_common_L13 sc h (nN x) (nN y) = some (nN (Nat.gcd x y), h) := by
  intro y
  induction y using Nat.strongRecOn with
  | ind y ih =>
    intro hy x hx
    rw [q_M_common_L13_eq]
    by_cases e : y = 0
    · rw [e, Nat.gcd_zero_right]
      simp (disch := omega) only [L_0, L_1, L_2, L_3, L_4, L_5, L_6, L_7, L_8, L_9, L_10, L_11, L_12, L_13, L_14, L_15, L_16, L_17, L_18, L_19, L_20, L_21, L_22, L_23, L_24, L_25, L_26, L_27, L_28, L_29, L_30, L_31, L_32, L_33, L_34, L_35, L_40, L_41, L_42, L_43, L_44, L_45, L_47, L_48, L_50, L_53, L_57, L_59, L_60, L_61, L_63, L_64, L_97, L_100, L_101, L_102, L_103, L_122, L_130, L_216, L_255, L_364, L_400, L_402, L_420, L_728, L_768, L_999, L_1000, L_1093, L_1872, L_2000, L_9999, L_12345, L_252645135, L_858993459, L_1103515245, L_1431655765, Lm_1, Lm_2, Lm_8, N_zero, N_cast, N_add, N_mul, N_sub, N_addM, N_lt_tp, N_lt_fp, N_le_tp, N_le_fp, N_eq_tp, N_eq_fp, MN_ltp, MN_lep, NM_ltp, NM_lep, NM_eqp, MN_eqp, MM_lt_tp, MM_lt_fp, MM_le_tp, MM_le_fp, MM_eq_tp, MM_eq_fp, N_cl, N_in_t, N_in_f, M_in, N_div, N_rem, N_nb0, N_nb1, cond_true, cond_false, Bool.not_true, Bool.not_false, Bool.and_true, Bool.true_and, Bool.and_false, Bool.false_and, decide_true, decide_false, Option.bind_some, Option.bind_none]
    · simp (disch := omega) only [L_0, L_1, L_2, L_3, L_4, L_5, L_6, L_7, L_8, L_9, L_10, L_11, L_12, L_13, L_14, L_15, L_16, L_17, L_18, L_19, L_20, L_21, L_22, L_23, L_24, L_25, L_26, L_27, L_28, L_29, L_30, L_31, L_32, L_33, L_34, L_35, L_40, L_41, L_42, L_43, L_44, L_45, L_47, L_48, L_50, L_53, L_57, L_59, L_60, L_61, L_63, L_64, L_97, L_100, L_101, L_102, L_103, L_122, L_130, L_216, L_255, L_364, L_400, L_402, L_420, L_728, L_768, L_999, L_1000, L_1093, L_1872, L_2000, L_9999, L_12345, L_252645135, L_858993459, L_1103515245, L_1431655765, Lm_1, Lm_2, Lm_8, N_zero, N_cast, N_add, N_mul, N_sub, N_addM, N_lt_tp, N_lt_fp, N_le_tp, N_le_fp, N_eq_tp, N_eq_fp, MN_ltp, MN_lep, NM_ltp, NM_lep, NM_eqp, MN_eqp, MM_lt_tp, MM_lt_fp, MM_le_tp, MM_le_fp, MM_eq_tp, MM_eq_fp, N_cl, N_in_t, N_in_f, M_in, N_div, N_rem, N_nb0, N_nb1, cond_true, cond_false, Bool.not_true, Bool.not_false, Bool.and_true, Bool.true_and, Bool.and_false, Bool.false_and, decide_true, decide_false, Option.bind_some, Option.bind_none]
      rw [ih (x % y) (Nat.mod_lt _ (by omega)) (by have := Nat.mod_lt x (show 0 < y by omega); omega) y hy, ← gcd_step]
theorem M_lineOf {a : Int} {b g : Nat} (h1 : -2147483647 ≤ a) (h2 : a ≤ 2147483647) (h3 : 0 < b) (h4 : b ≤ 2147483647) (hg : g ≤ 1) : q_M_lineOf sc h (Int32.ofInt a) (nN b) (nN g) = some (fr a b g, h) := by
  have hc : q_M_common sc h (Int32.ofInt a) (nN b) = some (nN (Nat.gcd a.natAbs b), h) := by
    rw [q_M_common_eq]
    have e0 : (Int32.ofInt 0 ≤ Int32.ofInt a) ↔ 0 ≤ a := iz_le (by decide) (by decide) (by omega) (by omega)
    by_cases k : 0 ≤ a
    · simp only [e0, k, decide_true, cond_true]
      rw [show Int32.ofInt a = nN a.natAbs by unfold nN; congr 1; omega, M_common_L b h4 _ (by omega)]
    · simp only [e0, k, decide_false, cond_false]
      rw [iz_neg, show Int32.ofInt (-a) = nN a.natAbs by unfold nN; congr 1; omega, M_common_L b h4 _ (by omega)]
  have gp : 0 < Nat.gcd a.natAbs b := Nat.gcd_pos_of_pos_right _ h3
  have gl : Nat.gcd a.natAbs b ≤ b := Nat.gcd_le_right _ h3
  rw [q_M_lineOf_eq, hc]
  unfold fr
  rcases N01 (show g < 2 by omega) with e | e
  · rw [e, if_pos rfl]
    simp (disch := omega) only [L_0, L_1, L_2, L_3, L_4, L_5, L_6, L_7, L_8, L_9, L_10, L_11, L_12, L_13, L_14, L_15, L_16, L_17, L_18, L_19, L_20, L_21, L_22, L_23, L_24, L_25, L_26, L_27, L_28, L_29, L_30, L_31, L_32, L_33, L_34, L_35, L_40, L_41, L_42, L_43, L_44, L_45, L_47, L_48, L_50, L_53, L_57, L_59, L_60, L_61, L_63, L_64, L_97, L_100, L_101, L_102, L_103, L_122, L_130, L_216, L_255, L_364, L_400, L_402, L_420, L_728, L_768, L_999, L_1000, L_1093, L_1872, L_2000, L_9999, L_12345, L_252645135, L_858993459, L_1103515245, L_1431655765, Lm_1, Lm_2, Lm_8, N_zero, N_cast, N_add, N_mul, N_sub, N_addM, N_lt_tp, N_lt_fp, N_le_tp, N_le_fp, N_eq_tp, N_eq_fp, MN_ltp, MN_lep, NM_ltp, NM_lep, NM_eqp, MN_eqp, MM_lt_tp, MM_lt_fp, MM_le_tp, MM_le_fp, MM_eq_tp, MM_eq_fp, N_cl, N_in_t, N_in_f, M_in, N_div, N_rem, N_nb0, N_nb1, cond_true, cond_false, Bool.not_true, Bool.not_false, Bool.and_true, Bool.true_and, Bool.and_false, Bool.false_and, decide_true, decide_false, Option.bind_some, Option.bind_none]
    unfold nN
    rw [iz_tdiv h1 h2 (by omega) (by omega)]
  · rw [e, if_neg (by decide)]
    simp (disch := omega) only [L_0, L_1, L_2, L_3, L_4, L_5, L_6, L_7, L_8, L_9, L_10, L_11, L_12, L_13, L_14, L_15, L_16, L_17, L_18, L_19, L_20, L_21, L_22, L_23, L_24, L_25, L_26, L_27, L_28, L_29, L_30, L_31, L_32, L_33, L_34, L_35, L_40, L_41, L_42, L_43, L_44, L_45, L_47, L_48, L_50, L_53, L_57, L_59, L_60, L_61, L_63, L_64, L_97, L_100, L_101, L_102, L_103, L_122, L_130, L_216, L_255, L_364, L_400, L_402, L_420, L_728, L_768, L_999, L_1000, L_1093, L_1872, L_2000, L_9999, L_12345, L_252645135, L_858993459, L_1103515245, L_1431655765, Lm_1, Lm_2, Lm_8, N_zero, N_cast, N_add, N_mul, N_sub, N_addM, N_lt_tp, N_lt_fp, N_le_tp, N_le_fp, N_eq_tp, N_eq_fp, MN_ltp, MN_lep, NM_ltp, NM_lep, NM_eqp, MN_eqp, MM_lt_tp, MM_lt_fp, MM_le_tp, MM_le_fp, MM_eq_tp, MM_eq_fp, N_cl, N_in_t, N_in_f, M_in, N_div, N_rem, N_nb0, N_nb1, cond_true, cond_false, Bool.not_true, Bool.not_false, Bool.and_true, Bool.true_and, Bool.and_false, Bool.false_and, decide_true, decide_false, Option.bind_some, Option.bind_none]
    rw [show nN (b / Nat.gcd a.natAbs b) = Int32.ofInt ((b : Int).tdiv ((Nat.gcd a.natAbs b : Nat) : Int)) by
      rw [← iz_tdiv (by omega) (by omega) (by omega) (by omega)]
      exact (N_div (by omega) gp (by omega)).symm]
theorem X_frEnd {a : Int} {b g d : Nat} (h1 : -2147483647 ≤ a) (h2 : a ≤ 2147483647) (h3 : 0 < b) (h4 : b ≤ 2147483647) (hg : g ≤ 1) (hd : 0 < d) (hd2 : d ≤ 2147483647) :
    (bif (decide (nN g = (Int32.ofInt 0))) then bif (!decide (Int64.ofInt (d : Int) = 0)) then some (((Int64.ofInt a / Int64.ofInt (d : Int))).toInt32, h) else none else bif (!decide (Int64.ofInt (d : Int) = 0)) then some (((Int64.ofInt (b : Int) / Int64.ofInt (d : Int))).toInt32, h) else none) = some (Int32.ofInt ((if g = 0 then a else (b : Int)).tdiv (d : Int)), h) := by
  have z : Int64.ofInt (d : Int) ≠ 0 := by
    intro e
    have := lz_inj (a := (d : Int)) (b := 0) (by omega) (by omega) (by decide) (by decide) e
    omega
  rw [lz_tdiv (by omega) (by omega) (by omega) (by omega), lz_tdiv (by omega) (by omega) (by omega) (by omega), Int64.toInt32_ofInt, Int64.toInt32_ofInt]
  rcases N01 (show g < 2 by omega) with e | e
  · rw [e, if_pos rfl]
    simp (disch := omega) only [L_0, L_1, L_2, L_3, L_4, L_5, L_6, L_7, L_8, L_9, L_10, L_11, L_12, L_13, L_14, L_15, L_16, L_17, L_18, L_19, L_20, L_21, L_22, L_23, L_24, L_25, L_26, L_27, L_28, L_29, L_30, L_31, L_32, L_33, L_34, L_35, L_40, L_41, L_42, L_43, L_44, L_45, L_47, L_48, L_50, L_53, L_57, L_59, L_60, L_61, L_63, L_64, L_97, L_100, L_101, L_102, L_103, L_122, L_130, L_216, L_255, L_364, L_400, L_402, L_420, L_728, L_768, L_999, L_1000, L_1093, L_1872, L_2000, L_9999, L_12345, L_252645135, L_858993459, L_1103515245, L_1431655765, Lm_1, Lm_2, Lm_8, N_zero, N_cast, N_add, N_mul, N_sub, N_addM, N_lt_tp, N_lt_fp, N_le_tp, N_le_fp, N_eq_tp, N_eq_fp, MN_ltp, MN_lep, NM_ltp, NM_lep, NM_eqp, MN_eqp, MM_lt_tp, MM_lt_fp, MM_le_tp, MM_le_fp, MM_eq_tp, MM_eq_fp, N_cl, N_in_t, N_in_f, M_in, N_div, N_rem, N_nb0, N_nb1, cond_true, cond_false, Bool.not_true, Bool.not_false, Bool.and_true, Bool.true_and, Bool.and_false, Bool.false_and, decide_true, decide_false, Option.bind_some, Option.bind_none, z]
  · rw [e, if_neg (by decide)]
    simp (disch := omega) only [L_0, L_1, L_2, L_3, L_4, L_5, L_6, L_7, L_8, L_9, L_10, L_11, L_12, L_13, L_14, L_15, L_16, L_17, L_18, L_19, L_20, L_21, L_22, L_23, L_24, L_25, L_26, L_27, L_28, L_29, L_30, L_31, L_32, L_33, L_34, L_35, L_40, L_41, L_42, L_43, L_44, L_45, L_47, L_48, L_50, L_53, L_57, L_59, L_60, L_61, L_63, L_64, L_97, L_100, L_101, L_102, L_103, L_122, L_130, L_216, L_255, L_364, L_400, L_402, L_420, L_728, L_768, L_999, L_1000, L_1093, L_1872, L_2000, L_9999, L_12345, L_252645135, L_858993459, L_1103515245, L_1431655765, Lm_1, Lm_2, Lm_8, N_zero, N_cast, N_add, N_mul, N_sub, N_addM, N_lt_tp, N_lt_fp, N_le_tp, N_le_fp, N_eq_tp, N_eq_fp, MN_ltp, MN_lep, NM_ltp, NM_lep, NM_eqp, MN_eqp, MM_lt_tp, MM_lt_fp, MM_le_tp, MM_le_fp, MM_eq_tp, MM_eq_fp, N_cl, N_in_t, N_in_f, M_in, N_div, N_rem, N_nb0, N_nb1, cond_true, cond_false, Bool.not_true, Bool.not_false, Bool.and_true, Bool.true_and, Bool.and_false, Bool.false_and, decide_true, decide_false, Option.bind_some, Option.bind_none, z]
theorem X_fr_L {a : Int} {b g : Nat} (h1 : -2147483647 ≤ a) (h2 : a ≤ 2147483647) (h3 : 0 < b) (h4 : b ≤ 2147483647) (hg : g ≤ 1) : ∀ n r d i : Nat, r < 2 ^ n → i + 2 * n ≤ 900 → r ≤ 2147483647 → 0 < d → d ≤ 2147483647 →
    q_X_fraction_L12 sc h (Int64.ofInt a) (Int64.ofInt (b : Int)) (nN g) (Int64.ofInt (d : Int)) (Int64.ofInt (r : Int)) (nN i) = some (Int32.ofInt ((if g = 0 then a else (b : Int)).tdiv ((Nat.gcd d r : Nat) : Int)), h) := by
  have cmp0 : ∀ r : Nat, r ≤ 2147483647 → (lg_cmp (Int64.ofInt (r : Int)) (Int64.ofNat 0) = nN 0 ↔ r = 0) := by
    intro r hr
    have e0 : Int64.ofNat 0 = Int64.ofInt 0 := rfl
    unfold lg_cmp
    rw [e0]
    by_cases k : r = 0
    · subst k
      exact ⟨fun _ => rfl, fun _ => by decide⟩
    · have : Int64.ofInt (r : Int) > Int64.ofInt 0 := (lz_lt (by decide) (by decide) (by omega) (by omega)).mpr (by omega)
      rw [if_pos this]
      exact ⟨fun q => absurd q (by decide), fun q => absurd q k⟩
  have stop : ∀ (d i : Nat), i ≤ 900 → 0 < d → d ≤ 2147483647 → q_X_fraction_L12 sc h (Int64.ofInt a) (Int64.ofInt (b : Int)) (nN g) (Int64.ofInt (d : Int)) (Int64.ofInt ((0 : Nat) : Int)) (nN i) = some (Int32.ofInt ((if g = 0 then a else (b : Int)).tdiv (d : Int)), h) := by
    intro d i hi hd hd2
    rw [q_X_fraction_L12_eq]
    have c := cmp0 0 (by omega)
    simp (disch := omega) only [L_1000, L_0, N_le_fp, cond_true, cond_false, Bool.not_true, Bool.not_false, Bool.and_true, Bool.true_and, Bool.and_false, Bool.false_and, decide_true, decide_false, Option.bind_some, Option.bind_none, c]
    exact X_frEnd h1 h2 h3 h4 hg hd hd2
  have step : ∀ (d r i : Nat), i ≤ 900 → 0 < d → d ≤ 2147483647 → 0 < r → r ≤ 2147483647 → q_X_fraction_L12 sc h (Int64.ofInt a) (Int64.ofInt (b : Int)) (nN g) (Int64.ofInt (d : Int)) (Int64.ofInt (r : Int)) (nN i) = q_X_fraction_L12 sc h (Int64.ofInt a) (Int64.ofInt (b : Int)) (nN g) (Int64.ofInt (r : Int)) (Int64.ofInt ((d % r : Nat) : Int)) (nN (i + 1)) := by
    intro d r i hi hd hd2 hr hr2
    rw [q_X_fraction_L12_eq]
    have c := cmp0 r (by omega)
    have z : Int64.ofInt (r : Int) ≠ 0 := by
      intro e
      have := lz_inj (a := (r : Int)) (b := 0) (by omega) (by omega) (by decide) (by decide) e
      omega
    simp (disch := omega) only [L_1000, L_0, L_1, N_le_fp, cond_true, cond_false, Bool.not_true, Bool.not_false, Bool.and_true, Bool.true_and, Bool.and_false, Bool.false_and, decide_true, decide_false, Option.bind_some, Option.bind_none, c, z, show ¬ r = 0 by omega, N_add]
    rw [lz_reml hd2 hr hr2]
  intro n
  induction n with
  | zero =>
    intro r d i hr hi hr2 hd hd2
    have r0 : r = 0 := by rw [Nat.pow_zero] at hr; omega
    subst r0
    rw [stop d i (by omega) hd hd2, Nat.gcd_zero_right]
  | succ n ih =>
    intro r d i hr hi hr2 hd hd2
    by_cases k : r = 0
    · subst k
      rw [stop d i (by omega) hd hd2, Nat.gcd_zero_right]
    · have m1 : d % r < r := Nat.mod_lt _ (by omega)
      rw [step d r i (by omega) hd hd2 (by omega) hr2, gcd_step d r]
      by_cases k2 : d % r = 0
      · rw [k2, stop r (i + 1) (by omega) (by omega) hr2, Nat.gcd_zero_right]
      · have m2 : r % (d % r) < d % r := Nat.mod_lt _ (by omega)
        have m3 : 2 * (r % (d % r)) < r := by
          have e := Nat.div_add_mod r (d % r)
          have q1 : 1 ≤ r / (d % r) := Nat.div_pos (by omega) (by omega)
          have := Nat.mul_le_mul_left (d % r) q1
          omega
        rw [step r (d % r) (i + 1) (by omega) (by omega) hr2 (by omega) (by omega), gcd_step r (d % r)]
        rw [Nat.pow_succ] at hr
        exact ih (r % (d % r)) (d % r) (i + 1 + 1) (by omega) (by omega) (by omega) (by omega) (by omega)
theorem X_fraction {a : Int} {b g : Nat} (h1 : -2147483647 ≤ a) (h2 : a ≤ 2147483647) (h3 : 0 < b) (h4 : b ≤ 2147483647) (hg : g ≤ 1) : q_X_fraction sc h (Int64.ofInt a) (Int64.ofInt (b : Int)) (nN g) = some (fr a b g, h) := by
  have e0 : Int64.ofNat 0 = Int64.ofInt 0 := rfl
  have habs : q_JMath_abs sc h (Int64.ofInt a) = some (Int64.ofInt ((a.natAbs : Nat) : Int), h) := by
    rw [q_JMath_abs_eq]
    unfold lg_cmp
    rw [e0]
    by_cases k : 0 < a
    · have : Int64.ofInt a > Int64.ofInt 0 := (lz_lt (by decide) (by decide) (by omega) (by omega)).mpr k
      rw [if_pos this, show ((a.natAbs : Nat) : Int) = a by omega]
      rfl
    · have : ¬ Int64.ofInt a > Int64.ofInt 0 := fun q => k ((lz_lt (by decide) (by decide) (by omega) (by omega)).mp q)
      rw [if_neg this]
      by_cases k2 : a = 0
      · subst k2
        rfl
      · have : ¬ Int64.ofInt a = Int64.ofInt 0 := fun q => k2 (lz_inj (by omega) (by omega) (by decide) (by decide) q)
        rw [if_neg this, ← Int64.ofInt_neg, show ((a.natAbs : Nat) : Int) = -a by omega]
        rfl
  have b31 : a.natAbs < 2 ^ 31 := by
    have : (2 : Nat) ^ 31 = 2147483648 := by decide
    omega
  rw [q_X_fraction_eq, habs]
  simp only [Option.bind_some, L_0, L_1, L_2, L_3, L_4, L_5, L_6, L_7, L_8, L_9, L_10, L_11, L_12, L_13, L_14, L_15, L_16, L_17, L_18, L_19, L_20, L_21, L_22, L_23, L_24, L_25, L_26, L_27, L_28, L_29, L_30, L_31, L_32, L_33, L_34, L_35, L_40, L_41, L_42, L_43, L_44, L_45, L_47, L_48, L_50, L_53, L_57, L_59, L_60, L_61, L_63, L_64, L_97, L_100, L_101, L_102, L_103, L_122, L_130, L_216, L_255, L_364, L_400, L_402, L_420, L_728, L_768, L_999, L_1000, L_1093, L_1872, L_2000, L_9999, L_12345, L_252645135, L_858993459, L_1103515245, L_1431655765, Lm_1, Lm_2, Lm_8]
  rw [X_fr_L h1 h2 h3 h4 hg 31 a.natAbs b 0 b31 (by omega) (by omega) h3 h4, Nat.gcd_comm]
  rfl
theorem nN_long {x : Nat} (hx : x ≤ 2147483647) : (nN x).toInt64 = Int64.ofInt (x : Int) := by
  unfold nN
  rw [Int32.toInt64_ofInt (by show (-2147483648 : Int) ≤ _; omega) (by show _ ≤ (2147483647 : Int); omega)]
end
