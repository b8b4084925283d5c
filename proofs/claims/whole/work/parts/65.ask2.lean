/-! Calls that ask: two, better, worth, pays. -/
def orF (P : Nat → Prop) [DecidablePred P] : Nat → Nat
  | 0 => 0
  | k + 1 => if P k then orF P k ||| 2 ^ k else orF P k
theorem orF_lt (P : Nat → Prop) [DecidablePred P] : ∀ k, orF P k < 2 ^ k
  | 0 => by rw [orF]; decide
  | k + 1 => by
    have h := orF_lt P k
    have e : (2 : Nat) ^ (k + 1) = 2 ^ k * 2 := Nat.pow_succ 2 k
    rw [orF]
    split
    · exact Nat.or_lt_two_pow (by omega) (by have := Nat.pow_pos (n := k) (show 0 < 2 by decide); omega)
    · omega
theorem orF_congr {P Q : Nat → Prop} [DecidablePred P] [DecidablePred Q] : ∀ {n : Nat}, (∀ i, i < n → (P i ↔ Q i)) → orF P n = orF Q n
  | 0, _ => rfl
  | k + 1, h => by
    rw [orF, orF, orF_congr (fun i hi => h i (by omega))]
    by_cases z : P k
    · rw [if_pos z, if_pos ((h k (by omega)).mp z)]
    · rw [if_neg z, if_neg (fun t => z ((h k (by omega)).mpr t))]
theorem N_or1 {b i : Nat} (hb : b < 64) (hi : i < 6) : (nN b ||| (nN 1 <<< (nN i &&& 31))) = nN (b ||| 2 ^ i) := bt_or b hb i hi
theorem own_wrP {A : wa} (hA : wa_ok A) {p : Nat} (hp : p < an A) (hb : ahb A (aho A p) = 0) : wrP A 0 p = (10 - asu A (aho A p)) * 10 ^ an A := by
  have hh := hA.2.2.2.1 p hp
  have e1 : wrP A 0 p = sm (nw A) (fun w => if True ∧ tb w (1 + aho A p) = 0 then wt A w else 0) := by
    rw [wrP_eq]
    refine sm_congr fun w _ => ?_
    have hf : fin A 0 w p = sg w (aho A p) := by rw [fin_keep hA hp (by omega), abin_0 hb]
    rw [hf]
    have t0 := tb_lt w 0
    have t1 := tb_lt w (1 + aho A p)
    have e : (sg w (aho A p) < 2 ∧ sg w (aho A p) ≠ tb w 0) ↔ (True ∧ tb w (1 + aho A p) = 0) := by
      unfold sg
      by_cases y : tb w (1 + aho A p) = tb w 0
      · rw [if_pos y]
        exact ⟨fun a => ⟨trivial, by omega⟩, fun a => ⟨by decide, by omega⟩⟩
      · rw [if_neg y]
        exact ⟨fun a => ⟨trivial, by omega⟩, fun a => ⟨by decide, by omega⟩⟩
    simp only [e]
  have m := wmarg hA hh.1 (fun _ => True) (fun _ _ => Iff.rfl) 0 (by decide)
  rw [← e1] at m
  simp only [if_true] at m
  rw [wt_sum hA, if_neg (by decide), Nat.pow_succ] at m
  have m2 : wrP A 0 p * 10 = (10 - asu A (aho A p)) * 10 ^ an A * 10 := by
    rw [m, Nat.mul_comm (10 ^ an A * 10), ← Nat.mul_assoc]
  exact Nat.eq_of_mul_eq_mul_right (by decide) m2
section
variable {sc : wb_X} {B : Nat}
theorem lg_gt {a b : Nat} (ha : a ≤ 2147483647) (hb : b ≤ 2147483647) : (lg_cmp (Int64.ofInt (a : Int)) (Int64.ofInt (b : Int)) ≤ nN 0) ↔ ¬ b < a := by
  unfold lg_cmp
  by_cases k : b < a
  · have : Int64.ofInt (a : Int) > Int64.ofInt (b : Int) := (lz_lt (by omega) (by omega) (by omega) (by omega)).mpr (by omega)
    rw [if_pos this]
    exact ⟨fun t => absurd t (by decide), fun t => absurd k t⟩
  · have : ¬ Int64.ofInt (a : Int) > Int64.ofInt (b : Int) := fun t => k (by have := (lz_lt (by omega) (by omega) (by omega) (by omega)).mp t; omega)
    rw [if_neg this]
    split
    · exact ⟨fun _ => k, fun _ => by decide⟩
    · exact ⟨fun _ => k, fun _ => by decide⟩
theorem lz_mul (a b : Nat) : Int64.ofInt (a : Int) * Int64.ofInt (b : Int) = Int64.ofInt ((a * b : Nat) : Int) := by rw [← Int64.ofInt_mul]; congr 1
theorem lz_add (a b : Nat) : Int64.ofInt (a : Int) + Int64.ofInt (b : Int) = Int64.ofInt ((a + b : Nat) : Int) := by rw [← Int64.ofInt_add]; congr 1
theorem c_two {h : wb_H} (I : Inv h B) : Same (fun h => q_X_two sc h) (fun h => q_M_two sc h) h B := by
  obtain ⟨T, R, v, q, s, C, D⟩ := I
  have hA := mkA_ok C.1 C.2.1
  have n6 := C.1.1
  have p1 := p10_le T C.1
  have hF := C.1.2.2.1
  have hO := C.1.2.2.2.1
  have bd1 : ∀ i, wrP (mkA T R) 0 i * tF T ≤ 300000000 := fun i => Nat.le_trans (Nat.mul_le_mul (wrP_10 hA 0 i) hF) (by decide)
  have bd2 : tO T * 10 ^ (tn T + 1) ≤ 300000000 := Nat.le_trans (Nat.mul_le_mul hO p1) (by decide)
  refine query (a := nN (orF (fun i => tO T * 10 ^ (tn T + 1) < wrP (mkA T R) 0 (rpl R i) * tF T) (tn T))) C ?_ ?_
  · show Ok (q_X_two sc h) _
    rw [q_X_two_eq]
    refine Ok_bind (X_tonight C D) ?_
    rintro h1 ⟨F1, A1, E1, D1⟩
    have C1 := CoreX C F1
    obtain ⟨e1, e2⟩ := X_ptr C1
    have g1 : decide (0 < q + 1) = true := decide_eq_true (by omega)
    have g3 : decide (q < 2) = true := decide_eq_true e2
    have f := C1.2.2.2.1.2.1
    have f8 := C1.2.2.2.1.2.2.2.1
    have f9 := C1.2.2.2.1.2.2.2.2.1
    have key : ∀ k j, j + k = tn T → q_X_two_L9 sc h1 (nN (orF (fun i => tO T * 10 ^ (tn T + 1) < wrP (mkA T R) 0 (rpl R i) * tF T) j)) (nN j) = some (nN (orF (fun i => tO T * 10 ^ (tn T + 1) < wrP (mkA T R) 0 (rpl R i) * tF T) (tn T)), h1) := by
      intro k
      induction k with
      | zero =>
        intro j hj
        rw [Nat.add_zero] at hj
        subst hj
        rw [q_X_two_L9_eq]
        simp (disch := omega) only [L_0, L_1, L_2, L_3, L_4, L_5, L_6, L_7, L_8, L_9, L_10, L_11, L_12, L_13, L_14, L_15, L_16, L_17, L_18, L_19, L_20, L_21, L_22, L_23, L_24, L_25, L_26, L_27, L_28, L_29, L_30, L_31, L_32, L_33, L_34, L_35, L_40, L_41, L_42, L_43, L_44, L_45, L_47, L_48, L_50, L_53, L_57, L_59, L_60, L_61, L_63, L_64, L_97, L_100, L_101, L_102, L_103, L_122, L_130, L_216, L_255, L_364, L_400, L_402, L_420, L_728, L_768, L_999, L_1000, L_1093, L_1872, L_2000, L_9999, L_12345, L_252645135, L_858993459, L_1103515245, L_1431655765, Lm_1, Lm_2, Lm_8, N_zero, N_cast, N_add, N_mul, N_sub, N_addM, N_lt_tp, N_lt_fp, N_le_tp, N_le_fp, N_eq_tp, N_eq_fp, MN_ltp, MN_lep, NM_ltp, NM_lep, NM_eqp, MN_eqp, MM_lt_tp, MM_lt_fp, MM_le_tp, MM_le_fp, MM_eq_tp, MM_eq_fp, N_cl, N_in_t, N_in_f, M_in, N_div, N_rem, N_nb0, N_nb1, cond_true, cond_false, Bool.not_true, Bool.not_false, Bool.and_true, Bool.true_and, Bool.and_false, Bool.false_and, decide_true, decide_false, Option.bind_some, Option.bind_none, e1, Nat.add_sub_cancel, g1, g3, f]
      | succ k ih =>
        intro j hj
        have ih2 := ih (j + 1) (by omega)
        rw [orF] at ih2
        have w := E1.1 j (by rw [an_mk]; omega)
        rw [apl_mk] at w
        have ol := orF_lt (fun i => tO T * 10 ^ (tn T + 1) < wrP (mkA T R) 0 (rpl R i) * tF T) j
        have p64 := pow2_64 (show j ≤ 6 by omega)
        have hw := wrP_10 hA 0 (rpl R j)
        rw [q_X_two_L9_eq]
        simp (disch := omega) only [L_0, L_1, L_2, L_3, L_4, L_5, L_6, L_7, L_8, L_9, L_10, L_11, L_12, L_13, L_14, L_15, L_16, L_17, L_18, L_19, L_20, L_21, L_22, L_23, L_24, L_25, L_26, L_27, L_28, L_29, L_30, L_31, L_32, L_33, L_34, L_35, L_40, L_41, L_42, L_43, L_44, L_45, L_47, L_48, L_50, L_53, L_57, L_59, L_60, L_61, L_63, L_64, L_97, L_100, L_101, L_102, L_103, L_122, L_130, L_216, L_255, L_364, L_400, L_402, L_420, L_728, L_768, L_999, L_1000, L_1093, L_1872, L_2000, L_9999, L_12345, L_252645135, L_858993459, L_1103515245, L_1431655765, Lm_1, Lm_2, Lm_8, N_zero, N_cast, N_add, N_mul, N_sub, N_addM, N_lt_tp, N_lt_fp, N_le_tp, N_le_fp, N_eq_tp, N_eq_fp, MN_ltp, MN_lep, NM_ltp, NM_lep, NM_eqp, MN_eqp, MM_lt_tp, MM_lt_fp, MM_le_tp, MM_le_fp, MM_eq_tp, MM_eq_fp, N_cl, N_in_t, N_in_f, M_in, N_div, N_rem, N_nb0, N_nb1, cond_true, cond_false, Bool.not_true, Bool.not_false, Bool.and_true, Bool.true_and, Bool.and_false, Bool.false_and, decide_true, decide_false, Option.bind_some, Option.bind_none, e1, Nat.add_sub_cancel, g1, g3, f, f8, f9, w, X_allWeight C1, nN_long, lz_mul, lg_gt (bd1 (rpl R j)  |> fun t => Nat.le_trans t (by decide)) (Nat.le_trans bd2 (by decide))]
        by_cases z : tO T * 10 ^ (tn T + 1) < wrP (mkA T R) 0 (rpl R j) * tF T
        · rw [if_pos z] at ih2
          simp only [z, not_true, decide_false, cond_false]
          rw [N_or1 (by omega) (by omega)]
          exact ih2
        · rw [if_neg z] at ih2
          simp only [z, not_false_eq_true, decide_true, cond_true]
          exact ih2
    exact ⟨_, key (tn T) 0 (Nat.zero_add _), rfl, F1, D1⟩
  · intro h0 C0
    show Ok (q_M_two sc h0) _
    rw [q_M_two_eq]
    refine Ok_bind (M_lays C0) ?_
    rintro h1 ⟨F1, A1, O1, -⟩
    have C1 := CoreM C0 F1
    obtain ⟨a1, a2, a3, a4, a5, a6, -⟩ := C1.2.2.2.2.1
    have key : ∀ k j, j + k = tn T → q_M_two_L8 sc h1 (nN (orF (fun i => tO T * 10 ^ (tn T + 1) < wrP (mkA T R) 0 (rpl R i) * tF T) j)) (nN j) = some (nN (orF (fun i => tO T * 10 ^ (tn T + 1) < wrP (mkA T R) 0 (rpl R i) * tF T) (tn T)), h1) := by
      intro k
      induction k with
      | zero =>
        intro j hj
        rw [Nat.add_zero] at hj
        subst hj
        rw [q_M_two_L8_eq]
        simp (disch := omega) only [L_0, L_1, L_2, L_3, L_4, L_5, L_6, L_7, L_8, L_9, L_10, L_11, L_12, L_13, L_14, L_15, L_16, L_17, L_18, L_19, L_20, L_21, L_22, L_23, L_24, L_25, L_26, L_27, L_28, L_29, L_30, L_31, L_32, L_33, L_34, L_35, L_40, L_41, L_42, L_43, L_44, L_45, L_47, L_48, L_50, L_53, L_57, L_59, L_60, L_61, L_63, L_64, L_97, L_100, L_101, L_102, L_103, L_122, L_130, L_216, L_255, L_364, L_400, L_402, L_420, L_728, L_768, L_999, L_1000, L_1093, L_1872, L_2000, L_9999, L_12345, L_252645135, L_858993459, L_1103515245, L_1431655765, Lm_1, Lm_2, Lm_8, N_zero, N_cast, N_add, N_mul, N_sub, N_addM, N_lt_tp, N_lt_fp, N_le_tp, N_le_fp, N_eq_tp, N_eq_fp, MN_ltp, MN_lep, NM_ltp, NM_lep, NM_eqp, MN_eqp, MM_lt_tp, MM_lt_fp, MM_le_tp, MM_le_fp, MM_eq_tp, MM_eq_fp, N_cl, N_in_t, N_in_f, M_in, N_div, N_rem, N_nb0, N_nb1, cond_true, cond_false, Bool.not_true, Bool.not_false, Bool.and_true, Bool.true_and, Bool.and_false, Bool.false_and, decide_true, decide_false, Option.bind_some, Option.bind_none, a2, a3]
      | succ k ih =>
        intro j hj
        have ih2 := ih (j + 1) (by omega)
        rw [orF] at ih2
        have ol := orF_lt (fun i => tO T * 10 ^ (tn T + 1) < wrP (mkA T R) 0 (rpl R i) * tF T) j
        have p64 := pow2_64 (show j ≤ 6 by omega)
        have hb := bd1 (rpl R j)
        rw [q_M_two_L8_eq]
        simp (disch := omega) only [L_0, L_1, L_2, L_3, L_4, L_5, L_6, L_7, L_8, L_9, L_10, L_11, L_12, L_13, L_14, L_15, L_16, L_17, L_18, L_19, L_20, L_21, L_22, L_23, L_24, L_25, L_26, L_27, L_28, L_29, L_30, L_31, L_32, L_33, L_34, L_35, L_40, L_41, L_42, L_43, L_44, L_45, L_47, L_48, L_50, L_53, L_57, L_59, L_60, L_61, L_63, L_64, L_97, L_100, L_101, L_102, L_103, L_122, L_130, L_216, L_255, L_364, L_400, L_402, L_420, L_728, L_768, L_999, L_1000, L_1093, L_1872, L_2000, L_9999, L_12345, L_252645135, L_858993459, L_1103515245, L_1431655765, Lm_1, Lm_2, Lm_8, N_zero, N_cast, N_add, N_mul, N_sub, N_addM, N_lt_tp, N_lt_fp, N_le_tp, N_le_fp, N_eq_tp, N_eq_fp, MN_ltp, MN_lep, NM_ltp, NM_lep, NM_eqp, MN_eqp, MM_lt_tp, MM_lt_fp, MM_le_tp, MM_le_fp, MM_eq_tp, MM_eq_fp, N_cl, N_in_t, N_in_f, M_in, N_div, N_rem, N_nb0, N_nb1, cond_true, cond_false, Bool.not_true, Bool.not_false, Bool.and_true, Bool.true_and, Bool.and_false, Bool.false_and, decide_true, decide_false, Option.bind_some, Option.bind_none, a2, a3, a5, a6, M_chanceOf hA A1 O1 (show j < an (mkA T R) by rw [an_mk]; omega), M_allWeight hA A1, apl_mk, an_mk]
        by_cases z : tO T * 10 ^ (tn T + 1) < wrP (mkA T R) 0 (rpl R j) * tF T
        · rw [if_pos z] at ih2
          rw [N_le_f z (by omega)]
          simp only [cond_false]
          rw [N_or1 (by omega) (by omega)]
          exact ih2
        · rw [if_neg z] at ih2
          rw [N_le_t (by omega) (by omega)]
          simp only [cond_true]
          exact ih2
    exact ⟨_, key (tn T) 0 (Nat.zero_add _), rfl, F1⟩
theorem tb_pow : ∀ i, i < 6 → ∀ j, j < 6 → (tb (2 ^ i) j = 1 ↔ j = i) := by decide +kernel
theorem M_chNow {h h1 : wb_H} {T : wT} {R : wR} {v q s : Nat} (C : Core h T R v q s B) (F1 : Fr MQQ h h1) {R' : wR} (hR : R_ok T R') (H : Row h1 96 0 T R') (h50 : h1.1 21 0 50 = nN 0) {i : Nat} (hi : i < tn T) : Ok (q_M_chanceNow sc h1 (nN i)) (fun r => r.1 = nN (wrP (mkA T R') 0 (rpl R' i)) ∧ Fr SCR h1 r.2) := by
  have hA := mkA_ok C.1 hR
  have A1 := MA_now C F1 rfl rfl hR H
  rw [q_M_chanceNow_eq]
  refine Ok_bind (M_fillsOut hA A1 (Nat.zero_le _) h50) ?_
  rintro h2 ⟨F2, O2⟩
  rw [M_chanceOf hA (MA_fr F2 rfl A1) O2 hi]
  exact Ok_some ⟨rfl, F2⟩
theorem c_better {h : wb_H} (I : Inv h B) : Same (fun h => q_X_better sc h) (fun h => q_M_better sc h) h B := by
  obtain ⟨T, R, v, q, s, C, D⟩ := I
  have hA := mkA_ok C.1 C.2.1
  have n6 := C.1.1
  have p1 := p10_le T C.1
  have p9 : 10 ^ tn T ≤ 10 ^ (tn T + 1) := Nat.pow_le_pow_right (by decide) (by omega)
  have bd : ∀ i, (10 - asu (mkA T R) i) * 10 ^ tn T ≤ 100000000 := fun i => Nat.le_trans (Nat.mul_le_mul (show 10 - asu (mkA T R) i ≤ 10 by omega) (Nat.le_trans p9 p1)) (by decide)
  refine query (a := nN (orF (fun i => (10 - asu (mkA T R) i) * 10 ^ tn T < wrP (mkA T R) 0 (rpl R i)) (tn T))) C ?_ ?_
  · show Ok (q_X_better sc h) _
    rw [q_X_better_eq]
    refine Ok_bind (X_tonight C D) ?_
    rintro h1 ⟨F1, A1, E1, D1⟩
    have C1 := CoreX C F1
    obtain ⟨e1, e2⟩ := X_ptr C1
    have g1 : decide (0 < q + 1) = true := decide_eq_true (by omega)
    have g3 : decide (q < 2) = true := decide_eq_true e2
    have f := C1.2.2.2.1.2.1
    have key : ∀ k j, j + k = tn T → q_X_better_L9 sc h1 (nN (orF (fun i => (10 - asu (mkA T R) i) * 10 ^ tn T < wrP (mkA T R) 0 (rpl R i)) j)) (nN j) = some (nN (orF (fun i => (10 - asu (mkA T R) i) * 10 ^ tn T < wrP (mkA T R) 0 (rpl R i)) (tn T)), h1) := by
      intro k
      induction k with
      | zero =>
        intro j hj
        rw [Nat.add_zero] at hj
        subst hj
        rw [q_X_better_L9_eq]
        simp (disch := omega) only [L_0, L_1, L_2, L_3, L_4, L_5, L_6, L_7, L_8, L_9, L_10, L_11, L_12, L_13, L_14, L_15, L_16, L_17, L_18, L_19, L_20, L_21, L_22, L_23, L_24, L_25, L_26, L_27, L_28, L_29, L_30, L_31, L_32, L_33, L_34, L_35, L_40, L_41, L_42, L_43, L_44, L_45, L_47, L_48, L_50, L_53, L_57, L_59, L_60, L_61, L_63, L_64, L_97, L_100, L_101, L_102, L_103, L_122, L_130, L_216, L_255, L_364, L_400, L_402, L_420, L_728, L_768, L_999, L_1000, L_1093, L_1872, L_2000, L_9999, L_12345, L_252645135, L_858993459, L_1103515245, L_1431655765, Lm_1, Lm_2, Lm_8, N_zero, N_cast, N_add, N_mul, N_sub, N_addM, N_lt_tp, N_lt_fp, N_le_tp, N_le_fp, N_eq_tp, N_eq_fp, MN_ltp, MN_lep, NM_ltp, NM_lep, NM_eqp, MN_eqp, MM_lt_tp, MM_lt_fp, MM_le_tp, MM_le_fp, MM_eq_tp, MM_eq_fp, N_cl, N_in_t, N_in_f, M_in, N_div, N_rem, N_nb0, N_nb1, cond_true, cond_false, Bool.not_true, Bool.not_false, Bool.and_true, Bool.true_and, Bool.and_false, Bool.false_and, decide_true, decide_false, Option.bind_some, Option.bind_none, e1, Nat.add_sub_cancel, g1, g3, f]
      | succ k ih =>
        intro j hj
        have ih2 := ih (j + 1) (by omega)
        rw [orF] at ih2
        have w := E1.1 j (by rw [an_mk]; omega)
        rw [apl_mk] at w
        have su := A1.2.2.2.2.2.2.2.1 j (by rw [an_mk]; omega)
        have hsu := hA.2.2.2.2.1 j (by rw [an_mk]; omega)
        have ol := orF_lt (fun i => (10 - asu (mkA T R) i) * 10 ^ tn T < wrP (mkA T R) 0 (rpl R i)) j
        have p64 := pow2_64 (show j ≤ 6 by omega)
        have hw := wrP_10 hA 0 (rpl R j)
        have hb := bd j
        rw [q_X_better_L9_eq]
        simp (disch := omega) only [L_0, L_1, L_2, L_3, L_4, L_5, L_6, L_7, L_8, L_9, L_10, L_11, L_12, L_13, L_14, L_15, L_16, L_17, L_18, L_19, L_20, L_21, L_22, L_23, L_24, L_25, L_26, L_27, L_28, L_29, L_30, L_31, L_32, L_33, L_34, L_35, L_40, L_41, L_42, L_43, L_44, L_45, L_47, L_48, L_50, L_53, L_57, L_59, L_60, L_61, L_63, L_64, L_97, L_100, L_101, L_102, L_103, L_122, L_130, L_216, L_255, L_364, L_400, L_402, L_420, L_728, L_768, L_999, L_1000, L_1093, L_1872, L_2000, L_9999, L_12345, L_252645135, L_858993459, L_1103515245, L_1431655765, Lm_1, Lm_2, Lm_8, N_zero, N_cast, N_add, N_mul, N_sub, N_addM, N_lt_tp, N_lt_fp, N_le_tp, N_le_fp, N_eq_tp, N_eq_fp, MN_ltp, MN_lep, NM_ltp, NM_lep, NM_eqp, MN_eqp, MM_lt_tp, MM_lt_fp, MM_le_tp, MM_le_fp, MM_eq_tp, MM_eq_fp, N_cl, N_in_t, N_in_f, M_in, N_div, N_rem, N_nb0, N_nb1, cond_true, cond_false, Bool.not_true, Bool.not_false, Bool.and_true, Bool.true_and, Bool.and_false, Bool.false_and, decide_true, decide_false, Option.bind_some, Option.bind_none, e1, Nat.add_sub_cancel, g1, g3, f, w, su, tt_1, tt_2]
        by_cases z : (10 - asu (mkA T R) j) * 10 ^ tn T < wrP (mkA T R) 0 (rpl R j)
        · rw [if_pos z] at ih2
          rw [N_le_f z (by omega)]
          simp only [cond_false]
          rw [N_or1 (by omega) (by omega)]
          exact ih2
        · rw [if_neg z] at ih2
          rw [N_le_t (by omega) (by omega)]
          simp only [cond_true]
          exact ih2
    exact ⟨_, key (tn T) 0 (Nat.zero_add _), rfl, F1, D1⟩
  · intro h0 C0
    have key : ∀ k j, j + k = tn T → ∀ h', Fr MQQ h0 h' → Ok (q_M_better_L4 sc h' (nN (orF (fun i => (10 - asu (mkA T R) i) * 10 ^ tn T < wrP (mkA T R) 0 (rpl R i)) j)) (nN j)) (fun r => r.1 = nN (orF (fun i => (10 - asu (mkA T R) i) * 10 ^ tn T < wrP (mkA T R) 0 (rpl R i)) (tn T)) ∧ Fr MQQ h0 r.2) := by
      intro k
      induction k with
      | zero =>
        intro j hj h' F'
        rw [Nat.add_zero] at hj
        subst hj
        obtain ⟨a1, a2, a3, -⟩ := (CoreM C0 F').2.2.2.2.1
        rw [q_M_better_L4_eq]
        simp (disch := omega) only [L_0, L_1, L_2, L_3, L_4, L_5, L_6, L_7, L_8, L_9, L_10, L_11, L_12, L_13, L_14, L_15, L_16, L_17, L_18, L_19, L_20, L_21, L_22, L_23, L_24, L_25, L_26, L_27, L_28, L_29, L_30, L_31, L_32, L_33, L_34, L_35, L_40, L_41, L_42, L_43, L_44, L_45, L_47, L_48, L_50, L_53, L_57, L_59, L_60, L_61, L_63, L_64, L_97, L_100, L_101, L_102, L_103, L_122, L_130, L_216, L_255, L_364, L_400, L_402, L_420, L_728, L_768, L_999, L_1000, L_1093, L_1872, L_2000, L_9999, L_12345, L_252645135, L_858993459, L_1103515245, L_1431655765, Lm_1, Lm_2, Lm_8, N_zero, N_cast, N_add, N_mul, N_sub, N_addM, N_lt_tp, N_lt_fp, N_le_tp, N_le_fp, N_eq_tp, N_eq_fp, MN_ltp, MN_lep, NM_ltp, NM_lep, NM_eqp, MN_eqp, MM_lt_tp, MM_lt_fp, MM_le_tp, MM_le_fp, MM_eq_tp, MM_eq_fp, N_cl, N_in_t, N_in_f, M_in, N_div, N_rem, N_nb0, N_nb1, cond_true, cond_false, Bool.not_true, Bool.not_false, Bool.and_true, Bool.true_and, Bool.and_false, Bool.false_and, decide_true, decide_false, Option.bind_some, Option.bind_none, a2, a3]
        exact Ok_some ⟨rfl, F'⟩
      | succ k ih =>
        intro j hj h' F'
        have hjn : j < tn T := by omega
        have C' := CoreM C0 F'
        obtain ⟨a1, a2, a3, -⟩ := C'.2.2.2.2.1
        rw [q_M_better_L4_eq]
        simp (disch := omega) only [L_0, L_1, L_2, L_3, L_4, L_5, L_6, L_7, L_8, L_9, L_10, L_11, L_12, L_13, L_14, L_15, L_16, L_17, L_18, L_19, L_20, L_21, L_22, L_23, L_24, L_25, L_26, L_27, L_28, L_29, L_30, L_31, L_32, L_33, L_34, L_35, L_40, L_41, L_42, L_43, L_44, L_45, L_47, L_48, L_50, L_53, L_57, L_59, L_60, L_61, L_63, L_64, L_97, L_100, L_101, L_102, L_103, L_122, L_130, L_216, L_255, L_364, L_400, L_402, L_420, L_728, L_768, L_999, L_1000, L_1093, L_1872, L_2000, L_9999, L_12345, L_252645135, L_858993459, L_1103515245, L_1431655765, Lm_1, Lm_2, Lm_8, N_zero, N_cast, N_add, N_mul, N_sub, N_addM, N_lt_tp, N_lt_fp, N_le_tp, N_le_fp, N_eq_tp, N_eq_fp, MN_ltp, MN_lep, NM_ltp, NM_lep, NM_eqp, MN_eqp, MM_lt_tp, MM_lt_fp, MM_le_tp, MM_le_fp, MM_eq_tp, MM_eq_fp, N_cl, N_in_t, N_in_f, M_in, N_div, N_rem, N_nb0, N_nb1, cond_true, cond_false, Bool.not_true, Bool.not_false, Bool.and_true, Bool.true_and, Bool.and_false, Bool.false_and, decide_true, decide_false, Option.bind_some, Option.bind_none, a2, a3]
        refine Ok_bind (M_copies C') ?_
        rintro h1 ⟨F1, g1, g2, g3⟩
        have r1 := Row_now C' g1
        have FF1 : Fr MQQ h' h1 := Fr_mono F1 rfl
        refine Ok_bind (M_chNow C' FF1 C.2.1 r1 g3 hjn) ?_
        rintro ⟨x, h2⟩ ⟨x1, F2⟩
        simp only at x1 F2 ⊢
        have FF2 : Fr MQQ h' h2 := Fr_trans FF1 (Fr_mono F2 rfl)
        have F3 : Fr [96] h2 (wb_iu h2 96 0 (6 + j) (nN 0)) := Fr_iu rfl
        have FF3 : Fr MQQ h' (wb_iu h2 96 0 (6 + j) (nN 0)) := Fr_trans FF2 (Fr_mono F3 rfl)
        have rl := C.2.1.2.2.2.2
        have r3 : Row (wb_iu h2 96 0 (6 + j) (nN 0)) 96 0 T (rwith R (rlf R) (2 ^ j)) := by
          refine ⟨fun i hi => ?_, fun i hi => ?_, ?_⟩
          · rw [iu_ne (by omega)]; exact (Fr_i F2 (by rfl)).trans (r1.1 i hi)
          · show _ = ovI (if tb (2 ^ j) i = 1 then 0 else rov R i)
            by_cases z : i = j
            · rw [if_pos ((tb_pow j (by omega) i (by omega)).mpr z), z, Nat.zero_add, iu_at]
              rfl
            · rw [if_neg (fun t => z ((tb_pow j (by omega) i (by omega)).mp t)), iu_ne (by omega)]
              exact (Fr_i F2 (by rfl)).trans (r1.2.1 i hi)
          · rw [iu_ne (by omega)]; exact (Fr_i F2 (by rfl)).trans r1.2.2
        have hR3 := rwith_ok C.2.1 (own := 2 ^ j) rl
        refine Ok_bind (M_chNow C' FF3 hR3 r3 (by rw [iu_nt (by decide)]; exact (Fr_i F2 (by rfl)).trans g3) hjn) ?_
        rintro ⟨y, h3⟩ ⟨y1, F4⟩
        simp only at y1 F4 ⊢
        have hA3 := mkA_ok C.1 hR3
        have hp3 := (hA3.2.2.1 j (by rw [an_mk]; omega))
        have own : wrP (mkA T (rwith R (rlf R) (2 ^ j))) 0 (rpl R j) = (10 - asu (mkA T R) j) * 10 ^ tn T := by
          have e : aho (mkA T (rwith R (rlf R) (2 ^ j))) (rpl R j) = j := hp3.2
          have := own_wrP hA3 (p := rpl R j) hp3.1 (by
            rw [e, ahb_mk]
            show (if tb (rlf R) j = 1 then 0 else if (if tb (2 ^ j) j = 1 then 0 else rov R j) = 9 then tht T j else (if tb (2 ^ j) j = 1 then 0 else rov R j)) = 0
            rw [if_pos ((tb_pow j (by omega) j (by omega)).mpr rfl)]
            split <;> rfl)
          rw [e] at this
          exact this
        have y2 : y = nN ((10 - asu (mkA T R) j) * 10 ^ tn T) := by rw [← own]; exact y1
        have ih2 := ih (j + 1) (by omega) h3 (Fr_trans F' (Fr_trans FF3 (Fr_mono F4 rfl)))
        rw [orF] at ih2
        have ol := orF_lt (fun i => (10 - asu (mkA T R) i) * 10 ^ tn T < wrP (mkA T R) 0 (rpl R i)) j
        have p64 := pow2_64 (show j ≤ 6 by omega)
        have hw := wrP_10 hA 0 (rpl R j)
        have hb := bd j
        rw [x1, y2]
        by_cases z : (10 - asu (mkA T R) j) * 10 ^ tn T < wrP (mkA T R) 0 (rpl R j)
        · rw [if_pos z] at ih2
          rw [N_le_f z (by omega)]
          simp only [cond_false]
          rw [N_or1 (by omega) (by omega)]
          exact ih2
        · rw [if_neg z] at ih2
          rw [N_le_t (by omega) (by omega)]
          simp only [cond_true]
          exact ih2
    show Ok (q_M_better sc h0) _
    rw [q_M_better_eq]
    exact key (tn T) 0 (Nat.zero_add _) h0 (Fr_refl _ _)
theorem or_zero (x : Nat) : x ||| 0 = x := Nat.or_zero x
theorem c_worth {h : wb_H} (I : Inv h B) (a : Int32) {g : Nat} (hg : g ≤ 1) : Same (fun h => q_X_worth sc h a (nN g)) (fun h => q_M_worth sc h a (nN g)) h B := by
  obtain ⟨T, R, v, q, s, C, D⟩ := I
  have n6 := C.1.1
  have p64 := pow2_64 n6
  have rl := C.2.1.2.2.2.2
  have p1 := p10_le T C.1
  have p2 := p10_pos (tn T + 1)
  by_cases ha : hsP (tn T) a
  · obtain ⟨i, hi, rfl⟩ := ha
    have pi : 2 ^ i < 2 ^ tn T := Nat.pow_lt_pow_right (by decide) hi
    have hl2 : rlf R ||| 2 ^ i < 2 ^ tn T := Nat.or_lt_two_pow rl pi
    have m1 := mnA_le (mkA_ok C.1 (rwith_ok C.2.1 (own := 0) rl)) 0
    have m2 := mnA_le (mkA_ok C.1 (rwith_ok C.2.1 (own := 0) hl2)) 0
    refine query (a := fr ((mnA (mkA T (rwith R (rlf R) 0)) 0 : Nat) - (mnA (mkA T (rwith R (rlf R ||| 2 ^ i) 0)) 0 : Nat) : Int) (10 ^ (tn T + 1)) g) C ?_ ?_
    · show Ok (q_X_worth sc h (nN i) (nN g)) _
      rw [q_X_worth_eq, X_isHouse_t C hi]
      have f := C.2.2.2.2.2.2.2.1.1.2.2
      simp (disch := omega) only [L_0, L_1, L_2, L_3, L_4, L_5, L_6, L_7, L_8, L_9, L_10, L_11, L_12, L_13, L_14, L_15, L_16, L_17, L_18, L_19, L_20, L_21, L_22, L_23, L_24, L_25, L_26, L_27, L_28, L_29, L_30, L_31, L_32, L_33, L_34, L_35, L_40, L_41, L_42, L_43, L_44, L_45, L_47, L_48, L_50, L_53, L_57, L_59, L_60, L_61, L_63, L_64, L_97, L_100, L_101, L_102, L_103, L_122, L_130, L_216, L_255, L_364, L_400, L_402, L_420, L_728, L_768, L_999, L_1000, L_1093, L_1872, L_2000, L_9999, L_12345, L_252645135, L_858993459, L_1103515245, L_1431655765, Lm_1, Lm_2, Lm_8, N_zero, N_cast, N_add, N_mul, N_sub, N_addM, N_lt_tp, N_lt_fp, N_le_tp, N_le_fp, N_eq_tp, N_eq_fp, MN_ltp, MN_lep, NM_ltp, NM_lep, NM_eqp, MN_eqp, MM_lt_tp, MM_lt_fp, MM_le_tp, MM_le_fp, MM_eq_tp, MM_eq_fp, N_cl, N_in_t, N_in_f, M_in, N_div, N_rem, N_nb0, N_nb1, cond_true, cond_false, Bool.not_true, Bool.not_false, Bool.and_true, Bool.true_and, Bool.and_false, Bool.false_and, decide_true, decide_false, Option.bind_some, Option.bind_none, f]
      refine Ok_bind (X_meanWith C D rl) ?_
      rintro ⟨x, h1⟩ ⟨x1, F1, D1⟩
      simp only at x1 F1 D1 ⊢
      have C1 := CoreX C F1
      rw [C1.2.2.2.2.2.2.2.1.1.2.2, N_or1 (by omega) (by omega)]
      refine Ok_bind (X_meanWith C1 D1 hl2) ?_
      rintro ⟨y, h2⟩ ⟨y1, F2, D2⟩
      simp only at y1 F2 D2 ⊢
      rw [x1, y1]
      unfold nN
      rw [iz_sub, Int32.toInt64_ofInt (by show (-2147483648 : Int) ≤ _; omega) (by show _ ≤ (2147483647 : Int); omega)]
      rw [show Int32.ofInt (g : Int) = nN g from rfl, X_partOfAll (CoreX C1 F2) (by omega) (by omega) hg]
      exact Ok_some ⟨rfl, Fr_trans F1 F2, D2⟩
    · intro h1 C1
      show Ok (q_M_worth sc h1 (nN i) (nN g)) _
      rw [q_M_worth_eq, M_isHouse_t C1 hi]
      simp (disch := omega) only [L_0, L_1, L_2, L_3, L_4, L_5, L_6, L_7, L_8, L_9, L_10, L_11, L_12, L_13, L_14, L_15, L_16, L_17, L_18, L_19, L_20, L_21, L_22, L_23, L_24, L_25, L_26, L_27, L_28, L_29, L_30, L_31, L_32, L_33, L_34, L_35, L_40, L_41, L_42, L_43, L_44, L_45, L_47, L_48, L_50, L_53, L_57, L_59, L_60, L_61, L_63, L_64, L_97, L_100, L_101, L_102, L_103, L_122, L_130, L_216, L_255, L_364, L_400, L_402, L_420, L_728, L_768, L_999, L_1000, L_1093, L_1872, L_2000, L_9999, L_12345, L_252645135, L_858993459, L_1103515245, L_1431655765, Lm_1, Lm_2, Lm_8, N_zero, N_cast, N_add, N_mul, N_sub, N_addM, N_lt_tp, N_lt_fp, N_le_tp, N_le_fp, N_eq_tp, N_eq_fp, MN_ltp, MN_lep, NM_ltp, NM_lep, NM_eqp, MN_eqp, MM_lt_tp, MM_lt_fp, MM_le_tp, MM_le_fp, MM_eq_tp, MM_eq_fp, N_cl, N_in_t, N_in_f, M_in, N_div, N_rem, N_nb0, N_nb1, cond_true, cond_false, Bool.not_true, Bool.not_false, Bool.and_true, Bool.true_and, Bool.and_false, Bool.false_and, decide_true, decide_false, Option.bind_some, Option.bind_none, bt_one i (show i < 7 by omega)]
      refine Ok_bind (M_meanWith C1 (l := 0) (Nat.pow_pos (by decide))) ?_
      rintro ⟨x, h2⟩ ⟨x1, F2⟩
      simp only at x1 F2 ⊢
      rw [Nat.or_zero] at x1
      refine Ok_bind (M_meanWith (CoreM C1 F2) pi) ?_
      rintro ⟨y, h3⟩ ⟨y1, F3⟩
      simp only at y1 F3 ⊢
      have aw : q_M_allWeight sc h3 = some (nN (10 ^ (tn T + 1)), h3) := by
        obtain ⟨b1, b2, b3, -⟩ := (CoreM (CoreM C1 F2) F3).2.2.2.2.1
        have key : ∀ k j, j + k = tn T → q_M_allWeight_L5 sc h3 (nN (10 ^ (j + 1))) (nN j) = some (nN (10 ^ (tn T + 1)), h3) := by
          intro k
          induction k with
          | zero =>
            intro j hj
            rw [Nat.add_zero] at hj
            subst hj
            rw [q_M_allWeight_L5_eq]
            simp (disch := omega) only [L_0, L_1, L_2, L_3, L_4, L_5, L_6, L_7, L_8, L_9, L_10, L_11, L_12, L_13, L_14, L_15, L_16, L_17, L_18, L_19, L_20, L_21, L_22, L_23, L_24, L_25, L_26, L_27, L_28, L_29, L_30, L_31, L_32, L_33, L_34, L_35, L_40, L_41, L_42, L_43, L_44, L_45, L_47, L_48, L_50, L_53, L_57, L_59, L_60, L_61, L_63, L_64, L_97, L_100, L_101, L_102, L_103, L_122, L_130, L_216, L_255, L_364, L_400, L_402, L_420, L_728, L_768, L_999, L_1000, L_1093, L_1872, L_2000, L_9999, L_12345, L_252645135, L_858993459, L_1103515245, L_1431655765, Lm_1, Lm_2, Lm_8, N_zero, N_cast, N_add, N_mul, N_sub, N_addM, N_lt_tp, N_lt_fp, N_le_tp, N_le_fp, N_eq_tp, N_eq_fp, MN_ltp, MN_lep, NM_ltp, NM_lep, NM_eqp, MN_eqp, MM_lt_tp, MM_lt_fp, MM_le_tp, MM_le_fp, MM_eq_tp, MM_eq_fp, N_cl, N_in_t, N_in_f, M_in, N_div, N_rem, N_nb0, N_nb1, cond_true, cond_false, Bool.not_true, Bool.not_false, Bool.and_true, Bool.true_and, Bool.and_false, Bool.false_and, decide_true, decide_false, Option.bind_some, Option.bind_none, b2, b3]
          | succ k ih =>
            intro j hj
            have ih2 := ih (j + 1) (by omega)
            rw [Nat.pow_succ] at ih2
            rw [q_M_allWeight_L5_eq]
            simp (disch := omega) only [L_0, L_1, L_2, L_3, L_4, L_5, L_6, L_7, L_8, L_9, L_10, L_11, L_12, L_13, L_14, L_15, L_16, L_17, L_18, L_19, L_20, L_21, L_22, L_23, L_24, L_25, L_26, L_27, L_28, L_29, L_30, L_31, L_32, L_33, L_34, L_35, L_40, L_41, L_42, L_43, L_44, L_45, L_47, L_48, L_50, L_53, L_57, L_59, L_60, L_61, L_63, L_64, L_97, L_100, L_101, L_102, L_103, L_122, L_130, L_216, L_255, L_364, L_400, L_402, L_420, L_728, L_768, L_999, L_1000, L_1093, L_1872, L_2000, L_9999, L_12345, L_252645135, L_858993459, L_1103515245, L_1431655765, Lm_1, Lm_2, Lm_8, N_zero, N_cast, N_add, N_mul, N_sub, N_addM, N_lt_tp, N_lt_fp, N_le_tp, N_le_fp, N_eq_tp, N_eq_fp, MN_ltp, MN_lep, NM_ltp, NM_lep, NM_eqp, MN_eqp, MM_lt_tp, MM_lt_fp, MM_le_tp, MM_le_fp, MM_eq_tp, MM_eq_fp, N_cl, N_in_t, N_in_f, M_in, N_div, N_rem, N_nb0, N_nb1, cond_true, cond_false, Bool.not_true, Bool.not_false, Bool.and_true, Bool.true_and, Bool.and_false, Bool.false_and, decide_true, decide_false, Option.bind_some, Option.bind_none, b2, b3]
            exact ih2
        rw [q_M_allWeight_eq]
        exact key (tn T) 0 (Nat.zero_add _)
      rw [aw]
      simp only [Option.bind_some]
      rw [x1, y1]
      have e : nN (mnA (mkA T (rwith R (rlf R) 0)) 0) - nN (mnA (mkA T (rwith R (rlf R ||| 2 ^ i) 0)) 0) = Int32.ofInt ((mnA (mkA T (rwith R (rlf R) 0)) 0 : Nat) - (mnA (mkA T (rwith R (rlf R ||| 2 ^ i) 0)) 0 : Nat) : Int) := by
        unfold nN
        rw [iz_sub]
      rw [e, M_lineOf (by omega) (by omega) p2 (by omega) hg]
      exact Ok_some ⟨rfl, Fr_trans F2 F3⟩
  · refine pure_query (a := nM 1) C D ?_ ?_
    · show q_X_worth sc h a (nN g) = _
      rw [q_X_worth_eq, X_isHouse_f C ha]
      simp (disch := omega) only [L_0, L_1, L_2, L_3, L_4, L_5, L_6, L_7, L_8, L_9, L_10, L_11, L_12, L_13, L_14, L_15, L_16, L_17, L_18, L_19, L_20, L_21, L_22, L_23, L_24, L_25, L_26, L_27, L_28, L_29, L_30, L_31, L_32, L_33, L_34, L_35, L_40, L_41, L_42, L_43, L_44, L_45, L_47, L_48, L_50, L_53, L_57, L_59, L_60, L_61, L_63, L_64, L_97, L_100, L_101, L_102, L_103, L_122, L_130, L_216, L_255, L_364, L_400, L_402, L_420, L_728, L_768, L_999, L_1000, L_1093, L_1872, L_2000, L_9999, L_12345, L_252645135, L_858993459, L_1103515245, L_1431655765, Lm_1, Lm_2, Lm_8, N_zero, N_cast, N_add, N_mul, N_sub, N_addM, N_lt_tp, N_lt_fp, N_le_tp, N_le_fp, N_eq_tp, N_eq_fp, MN_ltp, MN_lep, NM_ltp, NM_lep, NM_eqp, MN_eqp, MM_lt_tp, MM_lt_fp, MM_le_tp, MM_le_fp, MM_eq_tp, MM_eq_fp, N_cl, N_in_t, N_in_f, M_in, N_div, N_rem, N_nb0, N_nb1, cond_true, cond_false, Bool.not_true, Bool.not_false, Bool.and_true, Bool.true_and, Bool.and_false, Bool.false_and, decide_true, decide_false, Option.bind_some, Option.bind_none]
    · show Ok (q_M_worth sc h a (nN g)) _
      rw [q_M_worth_eq, M_isHouse_f C ha]
      simp (disch := omega) only [L_0, L_1, L_2, L_3, L_4, L_5, L_6, L_7, L_8, L_9, L_10, L_11, L_12, L_13, L_14, L_15, L_16, L_17, L_18, L_19, L_20, L_21, L_22, L_23, L_24, L_25, L_26, L_27, L_28, L_29, L_30, L_31, L_32, L_33, L_34, L_35, L_40, L_41, L_42, L_43, L_44, L_45, L_47, L_48, L_50, L_53, L_57, L_59, L_60, L_61, L_63, L_64, L_97, L_100, L_101, L_102, L_103, L_122, L_130, L_216, L_255, L_364, L_400, L_402, L_420, L_728, L_768, L_999, L_1000, L_1093, L_1872, L_2000, L_9999, L_12345, L_252645135, L_858993459, L_1103515245, L_1431655765, Lm_1, Lm_2, Lm_8, N_zero, N_cast, N_add, N_mul, N_sub, N_addM, N_lt_tp, N_lt_fp, N_le_tp, N_le_fp, N_eq_tp, N_eq_fp, MN_ltp, MN_lep, NM_ltp, NM_lep, NM_eqp, MN_eqp, MM_lt_tp, MM_lt_fp, MM_le_tp, MM_le_fp, MM_eq_tp, MM_eq_fp, N_cl, N_in_t, N_in_f, M_in, N_div, N_rem, N_nb0, N_nb1, cond_true, cond_false, Bool.not_true, Bool.not_false, Bool.and_true, Bool.true_and, Bool.and_false, Bool.false_and, decide_true, decide_false, Option.bind_some, Option.bind_none]
      exact Ok_some ⟨rfl, Fr_refl _ _⟩
def payA (A : wa) (f o : Nat) : Nat := sm (nw A) (fun w => wt A w * (f * wrW A 0 w + o * boW A 0 w))
theorem payA_eq (A : wa) (f o : Nat) : payA A f o = mnA A 0 * f + sm (an A) (boP A 0) * o := by
  unfold payA mnA
  rw [bo_sum, ← sm_mul', ← sm_mul', ← sm_add]
  refine sm_congr fun w _ => ?_
  rw [Nat.mul_add, Nat.mul_comm f, Nat.mul_comm o, Nat.mul_assoc, Nat.mul_assoc]
theorem payA_le {A : wa} (hA : wa_ok A) {f o : Nat} (hf : f ≤ 30) (ho : o ≤ 30) : payA A f o ≤ 1800000000 := by
  have h6 := hA.1
  have p1 : 10 ^ (an A + 1) ≤ 10000000 := Nat.pow_le_pow_right (n := 10) (by decide) (show an A + 1 ≤ 7 by omega)
  have e : payA A f o ≤ sm (nw A) (fun w => wt A w * 180) := sm_le fun w _ => by
    refine Nat.mul_le_mul_left _ ?_
    have := wrW_le A 0 w
    have a1 : f * wrW A 0 w ≤ 30 * wrW A 0 w := Nat.mul_le_mul_right _ hf
    have a2 : o * boW A 0 w ≤ 30 * boW A 0 w := Nat.mul_le_mul_right _ ho
    omega
  rw [sm_mul', wt_sum hA] at e
  omega
theorem c_pays {h : wb_H} (I : Inv h B) {g : Nat} (hg : g ≤ 1) : Same (fun h => q_X_pays sc h (nN g)) (fun h => q_M_pays sc h (nN g)) h B := by
  obtain ⟨T, R, v, q, s, C, D⟩ := I
  have hA := mkA_ok C.1 C.2.1
  have n6 := C.1.1
  have h128 := nw_le hA
  have p1 := p10_le T C.1
  have p2 := p10_pos (tn T + 1)
  have hF := C.1.2.2.1
  have hO := C.1.2.2.2.1
  have pl := payA_le hA hF hO
  have pe := payA_eq (mkA T R) (tF T) (tO T)
  have hm := mnA_le hA 0
  refine query (a := fr (payA (mkA T R) (tF T) (tO T) : Nat) (10 ^ (tn T + 1)) g) C ?_ ?_
  · show Ok (q_X_pays sc h (nN g)) _
    rw [q_X_pays_eq]
    refine Ok_bind (X_tonight C D) ?_
    rintro h1 ⟨F1, A1, E1, D1⟩
    have C1 := CoreX C F1
    obtain ⟨e1, e2⟩ := X_ptr C1
    have g1 : decide (0 < q + 1) = true := decide_eq_true (by omega)
    have g3 : decide (q < 2) = true := decide_eq_true e2
    have f8 := C1.2.2.2.1.2.2.2.1
    have f9 := C1.2.2.2.1.2.2.2.2.1
    have bo := E1.2.1
    have bl : sm (an (mkA T R)) (boP (mkA T R) 0) ≤ 60000000 := by
      have := sm_bd (fun i => boP_10 hA 0 i) (an (mkA T R))
      have := Nat.mul_le_mul_right 10000000 n6
      rw [an_mk] at *
      omega
    rw [X_allWrong hA A1 E1]
    simp (disch := omega) only [L_0, L_1, L_2, L_3, L_4, L_5, L_6, L_7, L_8, L_9, L_10, L_11, L_12, L_13, L_14, L_15, L_16, L_17, L_18, L_19, L_20, L_21, L_22, L_23, L_24, L_25, L_26, L_27, L_28, L_29, L_30, L_31, L_32, L_33, L_34, L_35, L_40, L_41, L_42, L_43, L_44, L_45, L_47, L_48, L_50, L_53, L_57, L_59, L_60, L_61, L_63, L_64, L_97, L_100, L_101, L_102, L_103, L_122, L_130, L_216, L_255, L_364, L_400, L_402, L_420, L_728, L_768, L_999, L_1000, L_1093, L_1872, L_2000, L_9999, L_12345, L_252645135, L_858993459, L_1103515245, L_1431655765, Lm_1, Lm_2, Lm_8, N_zero, N_cast, N_add, N_mul, N_sub, N_addM, N_lt_tp, N_lt_fp, N_le_tp, N_le_fp, N_eq_tp, N_eq_fp, MN_ltp, MN_lep, NM_ltp, NM_lep, NM_eqp, MN_eqp, MM_lt_tp, MM_lt_fp, MM_le_tp, MM_le_fp, MM_eq_tp, MM_eq_fp, N_cl, N_in_t, N_in_f, M_in, N_div, N_rem, N_nb0, N_nb1, cond_true, cond_false, Bool.not_true, Bool.not_false, Bool.and_true, Bool.true_and, Bool.and_false, Bool.false_and, decide_true, decide_false, Option.bind_some, Option.bind_none, e1, Nat.add_sub_cancel, g1, g3, f8, f9, bo, nN_long, lz_mul, lz_add]
    rw [← pe, X_partOfAll C1 (by omega) (by omega) hg]
    exact Ok_some ⟨rfl, F1, D1⟩
  · intro h0 C0
    show Ok (q_M_pays sc h0 (nN g)) _
    rw [q_M_pays_eq]
    refine Ok_bind (M_lays C0) ?_
    rintro h1 ⟨F1, A1, O1, -⟩
    have C1 := CoreM C0 F1
    obtain ⟨a1, a2, a3, a4, a5, a6, -⟩ := C1.2.2.2.2.1
    have inner : ∀ w, w < nw (mkA T R) → ∀ acc (P : Int32 × wb_H → Prop), Ok (q_M_pays_L8 sc h1 (nN g) (nN (acc + wt (mkA T R) w * (tF T * wrW (mkA T R) 0 w + tO T * boW (mkA T R) 0 w))) (nN (w + 1))) P → ∀ k j, j + k = tn T →
        Ok (q_M_pays_L36 sc h1 (nN g) (nN acc) (nN w) (nN (tF T * wrW (mkA T R) 0 w + tO T * sm j (fun p => if fin (mkA T R) 0 w p = 2 then 1 else 0))) (nN j)) P := by
      intro w hw acc P hP k
      induction k with
      | zero =>
        intro j hj
        rw [Nat.add_zero] at hj
        subst hj
        have fw := O1.1 w hw
        rw [q_M_pays_L36_eq]
        simp (disch := omega) only [L_0, L_1, L_2, L_3, L_4, L_5, L_6, L_7, L_8, L_9, L_10, L_11, L_12, L_13, L_14, L_15, L_16, L_17, L_18, L_19, L_20, L_21, L_22, L_23, L_24, L_25, L_26, L_27, L_28, L_29, L_30, L_31, L_32, L_33, L_34, L_35, L_40, L_41, L_42, L_43, L_44, L_45, L_47, L_48, L_50, L_53, L_57, L_59, L_60, L_61, L_63, L_64, L_97, L_100, L_101, L_102, L_103, L_122, L_130, L_216, L_255, L_364, L_400, L_402, L_420, L_728, L_768, L_999, L_1000, L_1093, L_1872, L_2000, L_9999, L_12345, L_252645135, L_858993459, L_1103515245, L_1431655765, Lm_1, Lm_2, Lm_8, N_zero, N_cast, N_add, N_mul, N_sub, N_addM, N_lt_tp, N_lt_fp, N_le_tp, N_le_fp, N_eq_tp, N_eq_fp, MN_ltp, MN_lep, NM_ltp, NM_lep, NM_eqp, MN_eqp, MM_lt_tp, MM_lt_fp, MM_le_tp, MM_le_fp, MM_eq_tp, MM_eq_fp, N_cl, N_in_t, N_in_f, M_in, N_div, N_rem, N_nb0, N_nb1, cond_true, cond_false, Bool.not_true, Bool.not_false, Bool.and_true, Bool.true_and, Bool.and_false, Bool.false_and, decide_true, decide_false, Option.bind_some, Option.bind_none, a2, a3, fw]
        exact hP
      | succ k ih =>
        intro j hj
        have ih2 := ih (j + 1) (by omega)
        rw [sm] at ih2
        have fo := O1.2 w hw j (by omega)
        have fe : dg (rr (mkA T R) 0 (an (mkA T R)) w) j = fin (mkA T R) 0 w j := rfl
        rw [fe] at fo
        have fl := fin_le (mkA T R) 0 w j
        rw [q_M_pays_L36_eq]
        by_cases z : fin (mkA T R) 0 w j = 2
        · rw [if_pos z, Nat.mul_add, Nat.mul_one, ← Nat.add_assoc] at ih2
          simp (disch := omega) only [L_0, L_1, L_2, L_3, L_4, L_5, L_6, L_7, L_8, L_9, L_10, L_11, L_12, L_13, L_14, L_15, L_16, L_17, L_18, L_19, L_20, L_21, L_22, L_23, L_24, L_25, L_26, L_27, L_28, L_29, L_30, L_31, L_32, L_33, L_34, L_35, L_40, L_41, L_42, L_43, L_44, L_45, L_47, L_48, L_50, L_53, L_57, L_59, L_60, L_61, L_63, L_64, L_97, L_100, L_101, L_102, L_103, L_122, L_130, L_216, L_255, L_364, L_400, L_402, L_420, L_728, L_768, L_999, L_1000, L_1093, L_1872, L_2000, L_9999, L_12345, L_252645135, L_858993459, L_1103515245, L_1431655765, Lm_1, Lm_2, Lm_8, N_zero, N_cast, N_add, N_mul, N_sub, N_addM, N_lt_tp, N_lt_fp, N_le_tp, N_le_fp, N_eq_tp, N_eq_fp, MN_ltp, MN_lep, NM_ltp, NM_lep, NM_eqp, MN_eqp, MM_lt_tp, MM_lt_fp, MM_le_tp, MM_le_fp, MM_eq_tp, MM_eq_fp, N_cl, N_in_t, N_in_f, M_in, N_div, N_rem, N_nb0, N_nb1, cond_true, cond_false, Bool.not_true, Bool.not_false, Bool.and_true, Bool.true_and, Bool.and_false, Bool.false_and, decide_true, decide_false, Option.bind_some, Option.bind_none, a2, a3, fo, a6]
          exact ih2
        · rw [if_neg z, Nat.add_zero] at ih2
          simp (disch := omega) only [L_0, L_1, L_2, L_3, L_4, L_5, L_6, L_7, L_8, L_9, L_10, L_11, L_12, L_13, L_14, L_15, L_16, L_17, L_18, L_19, L_20, L_21, L_22, L_23, L_24, L_25, L_26, L_27, L_28, L_29, L_30, L_31, L_32, L_33, L_34, L_35, L_40, L_41, L_42, L_43, L_44, L_45, L_47, L_48, L_50, L_53, L_57, L_59, L_60, L_61, L_63, L_64, L_97, L_100, L_101, L_102, L_103, L_122, L_130, L_216, L_255, L_364, L_400, L_402, L_420, L_728, L_768, L_999, L_1000, L_1093, L_1872, L_2000, L_9999, L_12345, L_252645135, L_858993459, L_1103515245, L_1431655765, Lm_1, Lm_2, Lm_8, N_zero, N_cast, N_add, N_mul, N_sub, N_addM, N_lt_tp, N_lt_fp, N_le_tp, N_le_fp, N_eq_tp, N_eq_fp, MN_ltp, MN_lep, NM_ltp, NM_lep, NM_eqp, MN_eqp, MM_lt_tp, MM_lt_fp, MM_le_tp, MM_le_fp, MM_eq_tp, MM_eq_fp, N_cl, N_in_t, N_in_f, M_in, N_div, N_rem, N_nb0, N_nb1, cond_true, cond_false, Bool.not_true, Bool.not_false, Bool.and_true, Bool.true_and, Bool.and_false, Bool.false_and, decide_true, decide_false, Option.bind_some, Option.bind_none, a2, a3, fo, a6]
          exact ih2
    have key : ∀ k j, j + k = nw (mkA T R) → Ok (q_M_pays_L8 sc h1 (nN g) (nN (sm j (fun w => wt (mkA T R) w * (tF T * wrW (mkA T R) 0 w + tO T * boW (mkA T R) 0 w)))) (nN j)) (fun r => r.1 = fr (payA (mkA T R) (tF T) (tO T) : Nat) (10 ^ (tn T + 1)) g ∧ r.2 = h1) := by
      intro k
      induction k with
      | zero =>
        intro j hj
        rw [Nat.add_zero] at hj
        subst hj
        rw [q_M_pays_L8_eq, M_worlds hA A1]
        simp (disch := omega) only [L_0, L_1, L_2, L_3, L_4, L_5, L_6, L_7, L_8, L_9, L_10, L_11, L_12, L_13, L_14, L_15, L_16, L_17, L_18, L_19, L_20, L_21, L_22, L_23, L_24, L_25, L_26, L_27, L_28, L_29, L_30, L_31, L_32, L_33, L_34, L_35, L_40, L_41, L_42, L_43, L_44, L_45, L_47, L_48, L_50, L_53, L_57, L_59, L_60, L_61, L_63, L_64, L_97, L_100, L_101, L_102, L_103, L_122, L_130, L_216, L_255, L_364, L_400, L_402, L_420, L_728, L_768, L_999, L_1000, L_1093, L_1872, L_2000, L_9999, L_12345, L_252645135, L_858993459, L_1103515245, L_1431655765, Lm_1, Lm_2, Lm_8, N_zero, N_cast, N_add, N_mul, N_sub, N_addM, N_lt_tp, N_lt_fp, N_le_tp, N_le_fp, N_eq_tp, N_eq_fp, MN_ltp, MN_lep, NM_ltp, NM_lep, NM_eqp, MN_eqp, MM_lt_tp, MM_lt_fp, MM_le_tp, MM_le_fp, MM_eq_tp, MM_eq_fp, N_cl, N_in_t, N_in_f, M_in, N_div, N_rem, N_nb0, N_nb1, cond_true, cond_false, Bool.not_true, Bool.not_false, Bool.and_true, Bool.true_and, Bool.and_false, Bool.false_and, decide_true, decide_false, Option.bind_some, Option.bind_none, M_allWeight hA A1]
        rw [an_mk, show sm (nw (mkA T R)) (fun w => wt (mkA T R) w * (tF T * wrW (mkA T R) 0 w + tO T * boW (mkA T R) 0 w)) = payA (mkA T R) (tF T) (tO T) from rfl, M_lineN (by omega) p2 (by omega) hg]
        exact Ok_some ⟨rfl, rfl⟩
      | succ k ih =>
        intro j hj
        have ih2 := ih (j + 1) (by omega)
        rw [sm] at ih2
        rw [q_M_pays_L8_eq, M_worlds hA A1]
        simp (disch := omega) only [L_0, L_1, L_2, L_3, L_4, L_5, L_6, L_7, L_8, L_9, L_10, L_11, L_12, L_13, L_14, L_15, L_16, L_17, L_18, L_19, L_20, L_21, L_22, L_23, L_24, L_25, L_26, L_27, L_28, L_29, L_30, L_31, L_32, L_33, L_34, L_35, L_40, L_41, L_42, L_43, L_44, L_45, L_47, L_48, L_50, L_53, L_57, L_59, L_60, L_61, L_63, L_64, L_97, L_100, L_101, L_102, L_103, L_122, L_130, L_216, L_255, L_364, L_400, L_402, L_420, L_728, L_768, L_999, L_1000, L_1093, L_1872, L_2000, L_9999, L_12345, L_252645135, L_858993459, L_1103515245, L_1431655765, Lm_1, Lm_2, Lm_8, N_zero, N_cast, N_add, N_mul, N_sub, N_addM, N_lt_tp, N_lt_fp, N_le_tp, N_le_fp, N_eq_tp, N_eq_fp, MN_ltp, MN_lep, NM_ltp, NM_lep, NM_eqp, MN_eqp, MM_lt_tp, MM_lt_fp, MM_le_tp, MM_le_fp, MM_eq_tp, MM_eq_fp, N_cl, N_in_t, N_in_f, M_in, N_div, N_rem, N_nb0, N_nb1, cond_true, cond_false, Bool.not_true, Bool.not_false, Bool.and_true, Bool.true_and, Bool.and_false, Bool.false_and, decide_true, decide_false, Option.bind_some, Option.bind_none, a2, a5, M_wrongIn hA A1 O1 (show j < nw (mkA T R) by omega)]
        have := inner j (by omega) _ _ ih2 (tn T) 0 (Nat.zero_add _)
        rw [sm, Nat.mul_zero, Nat.add_zero] at this
        exact this
    refine Ok_w (key (nw (mkA T R)) 0 (Nat.zero_add _)) ?_
    rintro r ⟨x1, x2⟩
    exact ⟨x1, by rw [x2]; exact F1⟩
end
