/-! fewest. -/
theorem pc_tb : ∀ s, s < 64 → ∀ i, i < 6 → ∀ n, n < 7 → s = 2 ^ n - 1 → i < n → tb s i = 1 := by
  intro s hs i hi n hn e hin
  rw [e]
  exact all_tb n hn i hi hin
def bF (T : wT) (R : wR) : Option Nat → Nat
  | none => 0
  | some b => fM T R b
noncomputable def feW (T : wT) (R : wR) (t : Nat) : Nat → Nat → Nat
  | 0, n => n
  | k + 1, n => @ite Nat (10 * bF T R (blF T R n (frL T R + 1)) ≤ t * 10 ^ (tn T + 1)) (Nat.decLe _ _) n (feW T R t k (n + 1))
section
variable {sc : wb_X} {B : Nat}
theorem all_zero {T : wT} {R : wR} (hT : T_ok T) (hR : R_ok T R) : fM T R (frL T R) = 0 := by
  have n6 := hT.1
  have rl := hR.2.2.2.2
  have p64 := pow2_64 n6
  have e := all_or (tn T) (by omega) (rlf R) (by omega) rl
  have lt : rlf R ||| frL T R < 2 ^ tn T := Nat.or_lt_two_pow rl (frL_lt hT)
  have hR' := rwith_ok hR (own := 0) lt
  have hA := mkA_ok hT hR'
  have hm : mnA (mkA T (rwith R (rlf R ||| frL T R) 0)) 0 = sm (an (mkA T (rwith R (rlf R ||| frL T R) 0))) (wrP (mkA T (rwith R (rlf R ||| frL T R) 0)) 0) := (wr_sum _ _).symm
  unfold fM
  rw [hm]
  have z : ∀ i, i < tn T → tb (rlf R ||| frL T R) i = 1 := fun i hi => by
    have : rlf R ||| frL T R = 2 ^ tn T - 1 := e
    rw [this]
    exact all_tb (tn T) (by omega) i (by omega) hi
  have zz : sm (an (mkA T (rwith R (rlf R ||| frL T R) 0))) (wrP (mkA T (rwith R (rlf R ||| frL T R) 0)) 0) = sm (an (mkA T (rwith R (rlf R ||| frL T R) 0))) (fun _ => 0) := by
    refine sm_congr fun p hp => ?_
    have hh := hA.2.2.2.1 p hp
    have hi : aho (mkA T (rwith R (rlf R ||| frL T R) 0)) p < tn T := hh.1
    rw [own_wrP hA hp (by rw [ahb_mk]; exact if_pos (z _ hi))]
    have : asu (mkA T (rwith R (rlf R ||| frL T R) 0)) (aho (mkA T (rwith R (rlf R ||| frL T R) 0)) p) = 10 := by rw [asu_mk]; exact if_pos (z _ hi)
    rw [this, Nat.sub_self, Nat.zero_mul]
  rw [zz]
  have : ∀ n, sm n (fun _ => 0) = 0 := fun n => by
    induction n with
    | zero => rfl
    | succ n ih => rw [sm, ih]
  exact this _
theorem M_aw {h : wb_H} {T : wT} {R : wR} {v q s : Nat} (C : Core h T R v q s B) : q_M_allWeight sc h = some (nN (10 ^ (tn T + 1)), h) := by
  obtain ⟨b1, b2, b3, -⟩ := C.2.2.2.2.1
  have n6 := C.1.1
  have key : ∀ k j, j + k = tn T → q_M_allWeight_L5 sc h (nN (10 ^ (j + 1))) (nN j) = some (nN (10 ^ (tn T + 1)), h) := by
    intro k
    induction k with
    | zero =>
      intro j hj
      rw [Nat.add_zero] at hj
      subst hj
      rw [q_M_allWeight_L5_eq]
      simp (disch := omega) only [L_0, L_1, L_2, L_3, L_4, L_5, L_6, L_7, L_8, L_9, L_10, L_11, L_12, L_13, L_14, L_15, L_16, L_17, L_18, L_19, L_20, L_21, L_22, L_23, L_24, L_25, L_26, L_27, L_28, L_29, L_30, L_31, L_32, L_33, L_34, L_35, L_40, L_41, L_42, L_43, L_44, L_45, L_47, L_48, L_50, L_53, L_57, L_59, L_60, L_61, L_63, L_64, L_97, L_100, L_101, L_102, L_103, L_122, L_130, L_216, L_255, L_364, L_400, L_402, L_420, L_728, L_768, L_999, L_1000, L_1093, L_1872, L_2000, L_9999, L_12345, L_252645135, L_858993459, L_1103515245, L_1431655765, Lm_1, Lm_2, Lm_8, N_zero, N_cast, N_add, N_mul, N_sub, N_addM, N_lt_tp, N_lt_fp, N_le_tp, N_le_fp, N_eq_tp, N_eq_fp, MN_ltp, MN_lep, NM_ltp, NM_lep, NM_eqp, MN_eqp, MM_lt_tp, MM_lt_fp, MM_le_tp, MM_le_fp, MM_eq_tp, MM_eq_fp, N_cl, N_in_t, N_in_f, M_in, N_div, N_rem, N_nb0, N_nb1, cond_true, cond_false, Bool.not_true, Bool.not_false, Bool.and_true, Bool.true_and, Bool.and_false, Bool.false_and, decide_true, decide_false, Option.bind_some, Option.bind_none, b2, b3]
    | succ k ih =>
      intro j hj
      have ih2 := ih (j + 1) (by omega)
      rw [Nat.pow_succ] at ih2
      rw [q_M_allWeight_L5_eq]
      simp (disch := omega) only [L_0, L_1, L_2, L_3, L_4, L_5, L_6, L_7, L_8, L_9, L_10, L_11, L_12, L_13, L_14, L_15, L_16, L_17, L_18, L_19, L_20, L_21, L_22, L_23, L_24, L_25, L_26, L_27, L_28, L_29, L_30, L_31, L_32, L_33, L_34, L_35, L_40, L_41, L_42, L_43, L_44, L_45, L_47, L_48, L_50, L_53, L_57, L_59, L_60, L_61, L_63, L_64, L_97, L_100, L_101, L_102, L_103, L_122, L_130, L_216, L_255, L_364, L_400, L_402, L_420, L_728, L_768, L_999, L_1000, L_1093, L_1872, L_2000, L_9999, L_12345, L_252645135, L_858993459, L_1103515245, L_1431655765, Lm_1, Lm_2, Lm_8, N_zero, N_cast, N_add, N_mul, N_sub, N_addM, N_lt_tp, N_lt_fp, N_le_tp, N_le_fp, N_eq_tp, N_eq_fp, MN_ltp, MN_lep, NM_ltp, NM_lep, NM_eqp, MN_eqp, MM_lt_tp, MM_lt_fp, MM_le_tp, MM_le_fp, MM_eq_tp, MM_eq_fp, N_cl, N_in_t, N_in_f, M_in, N_div, N_rem, N_nb0, N_nb1, cond_true, cond_false, Bool.not_true, Bool.not_false, Bool.and_true, Bool.true_and, Bool.and_false, Bool.false_and, decide_true, decide_false, Option.bind_some, Option.bind_none, b2, b3]
      exact ih2
  rw [q_M_allWeight_eq]
  exact key (tn T) 0 (Nat.zero_add _)
theorem Ix_10 : Int64.ofNat 10 = Int64.ofInt ((10 : Nat) : Int) := by decide
theorem c_fewest {h : wb_H} (I : Inv h B) (a : Int32) : Same (fun h => q_X_fewest sc h a) (fun h => q_M_fewest sc h a) h B := by
  obtain ⟨T, R, v, q, s, C, D⟩ := I
  have n6 := C.1.1
  have fl := frL_lt (R := R) C.1
  have p64 := pow2_64 n6
  have rl := C.2.1.2.2.2.2
  have p1 := p10_le T C.1
  have p2 := p10_pos (tn T)
  have w6 := pc_le (frL T R) (by omega)
  by_cases ha : hsP (60 + 1) a
  · obtain ⟨t, ht, rfl⟩ := ha
    refine query (a := nN (feW T R t (pc (frL T R)) 0)) C ?_ ?_
    · have key : ∀ k n, n + k = pc (frL T R) → ∀ h', Fr XQQ h h' → Cache h' T R q → Ok (q_X_fewest_L32 sc h' (nN t) (nN (pc (frL T R))) (nN n)) (fun r => r.1 = nN (feW T R t k n) ∧ Fr XQQ h r.2 ∧ Cache r.2 T R q) := by
        intro k
        induction k with
        | zero =>
          intro n hn h' F' D'
          rw [Nat.add_zero] at hn
          subst hn
          rw [q_X_fewest_L32_eq]
          simp (disch := omega) only [L_0, L_1, L_2, L_3, L_4, L_5, L_6, L_7, L_8, L_9, L_10, L_11, L_12, L_13, L_14, L_15, L_16, L_17, L_18, L_19, L_20, L_21, L_22, L_23, L_24, L_25, L_26, L_27, L_28, L_29, L_30, L_31, L_32, L_33, L_34, L_35, L_40, L_41, L_42, L_43, L_44, L_45, L_47, L_48, L_50, L_53, L_57, L_59, L_60, L_61, L_63, L_64, L_97, L_100, L_101, L_102, L_103, L_122, L_130, L_216, L_255, L_364, L_400, L_402, L_420, L_728, L_768, L_999, L_1000, L_1093, L_1872, L_2000, L_9999, L_12345, L_252645135, L_858993459, L_1103515245, L_1431655765, Lm_1, Lm_2, Lm_8, N_zero, N_cast, N_add, N_mul, N_sub, N_addM, N_lt_tp, N_lt_fp, N_le_tp, N_le_fp, N_eq_tp, N_eq_fp, MN_ltp, MN_lep, NM_ltp, NM_lep, NM_eqp, MN_eqp, MM_lt_tp, MM_lt_fp, MM_le_tp, MM_le_fp, MM_eq_tp, MM_eq_fp, N_cl, N_in_t, N_in_f, M_in, N_div, N_rem, N_nb0, N_nb1, cond_true, cond_false, Bool.not_true, Bool.not_false, Bool.and_true, Bool.true_and, Bool.and_false, Bool.false_and, decide_true, decide_false, Option.bind_some, Option.bind_none]
          exact Ok_some ⟨rfl, F', D'⟩
        | succ k ih =>
          intro n hn h' F' D'
          have C' := CoreX C F'
          rw [q_X_fewest_L32_eq]
          simp (disch := omega) only [L_0, L_1, L_2, L_3, L_4, L_5, L_6, L_7, L_8, L_9, L_10, L_11, L_12, L_13, L_14, L_15, L_16, L_17, L_18, L_19, L_20, L_21, L_22, L_23, L_24, L_25, L_26, L_27, L_28, L_29, L_30, L_31, L_32, L_33, L_34, L_35, L_40, L_41, L_42, L_43, L_44, L_45, L_47, L_48, L_50, L_53, L_57, L_59, L_60, L_61, L_63, L_64, L_97, L_100, L_101, L_102, L_103, L_122, L_130, L_216, L_255, L_364, L_400, L_402, L_420, L_728, L_768, L_999, L_1000, L_1093, L_1872, L_2000, L_9999, L_12345, L_252645135, L_858993459, L_1103515245, L_1431655765, Lm_1, Lm_2, Lm_8, N_zero, N_cast, N_add, N_mul, N_sub, N_addM, N_lt_tp, N_lt_fp, N_le_tp, N_le_fp, N_eq_tp, N_eq_fp, MN_ltp, MN_lep, NM_ltp, NM_lep, NM_eqp, MN_eqp, MM_lt_tp, MM_lt_fp, MM_le_tp, MM_le_fp, MM_eq_tp, MM_eq_fp, N_cl, N_in_t, N_in_f, M_in, N_div, N_rem, N_nb0, N_nb1, cond_true, cond_false, Bool.not_true, Bool.not_false, Bool.and_true, Bool.true_and, Bool.and_false, Bool.false_and, decide_true, decide_false, Option.bind_some, Option.bind_none]
          refine Ok_bind (X_bestLf C' D' (show n ≤ 6 by omega)) ?_
          rintro ⟨x, h1⟩ ⟨x1, F1, D1⟩
          simp only at x1 F1 D1 ⊢
          cases hb : blF T R n (frL T R + 1) with
          | none =>
            have := (bl_ex C.1 (show n ≤ 6 by omega)).mp hb
            omega
          | some b =>
            rw [hb] at x1
            obtain ⟨b1, b2⟩ := blF_some hb
            have bl := gS_lt C.1 (by omega) b2
            have C1 := CoreX C' F1
            have l17 : h'.1 17 0 2 = nN (rlf R) := C'.2.2.2.2.2.2.2.1.1.2.2
            rw [show x = nN b from x1, l17, bt_or2 (rlf R) (show rlf R < 64 by omega) b (by omega)]
            have hlt := Nat.or_lt_two_pow rl bl.2
            refine Ok_bind (X_meanWith C1 D1 hlt) ?_
            rintro ⟨y, h2⟩ ⟨y1, F2, D2⟩
            simp only at y1 F2 D2 ⊢
            have C2 := CoreX C1 F2
            have m2 := mnA_le (mkA_ok C.1 (rwith_ok C.2.1 (own := 0) hlt)) 0
            have fb : y = nN (fM T R b) := y1
            have m3 : fM T R b ≤ 60000000 := m2
            have pt : t * 10 ^ (tn T + 1) ≤ 60 * 10000000 := Nat.mul_le_mul (by omega) p1
            rw [X_allWeight C2, fb]
            simp only [Option.bind_some]
            have ih2 := ih (n + 1) (by omega) h2 (Fr_trans F' (Fr_trans F1 F2)) D2
            have e1 : Int64.ofNat 10 * (nN (fM T R b)).toInt64 = Int64.ofInt ((10 * fM T R b : Nat) : Int) := by rw [Ix_10, nN_long (by omega), lz_mul]
            have e2 : (nN t).toInt64 * (nN (10 ^ (tn T + 1))).toInt64 = Int64.ofInt ((t * 10 ^ (tn T + 1) : Nat) : Int) := by rw [nN_long (by omega), nN_long (by omega), lz_mul]
            rw [feW, hb]
            have g := lg_gt (a := 10 * fM T R b) (b := t * 10 ^ (tn T + 1)) (by omega) (by omega)
            by_cases z : 10 * fM T R b ≤ t * 10 ^ (tn T + 1)
            · rw [if_pos (show 10 * bF T R (some b) ≤ t * 10 ^ (tn T + 1) from z)]
              have t1 : (nN 0 < lg_cmp (Int64.ofNat 10 * (nN (fM T R b)).toInt64) ((nN t).toInt64 * (nN (10 ^ (tn T + 1))).toInt64)) = False := by
                rw [e1, e2]
                exact eq_false (Int32.not_lt.mpr (g.mpr (by omega)))
              simp only [t1, decide_false, cond_false]
              exact Ok_some ⟨rfl, Fr_trans F' (Fr_trans F1 F2), D2⟩
            · rw [if_neg (show ¬ 10 * bF T R (some b) ≤ t * 10 ^ (tn T + 1) from z)]
              have t1 : (nN 0 < lg_cmp (Int64.ofNat 10 * (nN (fM T R b)).toInt64) ((nN t).toInt64 * (nN (10 ^ (tn T + 1))).toInt64)) = True := by
                rw [e1, e2]
                exact eq_true (Int32.not_le.mp (fun y => g.mp y (by omega)))
              simp only [t1, decide_true, cond_true]
              exact ih2
      show Ok (q_X_fewest sc h (nN t)) _
      rw [q_X_fewest_eq]
      simp (disch := omega) only [L_0, L_1, L_2, L_3, L_4, L_5, L_6, L_7, L_8, L_9, L_10, L_11, L_12, L_13, L_14, L_15, L_16, L_17, L_18, L_19, L_20, L_21, L_22, L_23, L_24, L_25, L_26, L_27, L_28, L_29, L_30, L_31, L_32, L_33, L_34, L_35, L_40, L_41, L_42, L_43, L_44, L_45, L_47, L_48, L_50, L_53, L_57, L_59, L_60, L_61, L_63, L_64, L_97, L_100, L_101, L_102, L_103, L_122, L_130, L_216, L_255, L_364, L_400, L_402, L_420, L_728, L_768, L_999, L_1000, L_1093, L_1872, L_2000, L_9999, L_12345, L_252645135, L_858993459, L_1103515245, L_1431655765, Lm_1, Lm_2, Lm_8, N_zero, N_cast, N_add, N_mul, N_sub, N_addM, N_lt_tp, N_lt_fp, N_le_tp, N_le_fp, N_eq_tp, N_eq_fp, MN_ltp, MN_lep, NM_ltp, NM_lep, NM_eqp, MN_eqp, MM_lt_tp, MM_lt_fp, MM_le_tp, MM_le_fp, MM_eq_tp, MM_eq_fp, N_cl, N_in_t, N_in_f, M_in, N_div, N_rem, N_nb0, N_nb1, cond_true, cond_false, Bool.not_true, Bool.not_false, Bool.and_true, Bool.true_and, Bool.and_false, Bool.false_and, decide_true, decide_false, Option.bind_some, Option.bind_none, X_allHouses C, X_freePc C, X_bitCount h (frL T R) (show frL T R < 64 by omega)]
      exact key (pc (frL T R)) 0 (Nat.zero_add _) h (Fr_refl _ _) D
    · intro h0 C0
      have key : ∀ k n, n + k = pc (frL T R) → ∀ h', Fr MQQ h0 h' → Ok (q_M_fewest_L14 sc h' (nN t) (nN n)) (fun r => r.1 = nN (feW T R t k n) ∧ Fr MQQ h0 r.2) := by
        have one : ∀ n, n ≤ pc (frL T R) → ∀ h', Fr MQQ h0 h' → ∀ (P : Int32 × wb_H → Prop), (∀ b h2, blF T R n (frL T R + 1) = some b → b < 2 ^ tn T → Fr MQQ h0 h2 → (10 * fM T R b ≤ t * 10 ^ (tn T + 1) → P (nN n, h2)) ∧ (¬ 10 * fM T R b ≤ t * 10 ^ (tn T + 1) → Ok (q_M_fewest_L14 sc h2 (nN t) (nN (n + 1))) P)) → Ok (q_M_fewest_L14 sc h' (nN t) (nN n)) P := by
          intro n hn h' F' P hP
          have C' := CoreM C0 F'
          rw [q_M_fewest_L14_eq]
          refine Ok_bind (M_bestLf C' (show n ≤ 6 by omega)) ?_
          rintro ⟨x, h1⟩ ⟨x1, F1⟩
          simp only at x1 F1 ⊢
          cases hb : blF T R n (frL T R + 1) with
          | none =>
            have := (bl_ex C.1 (show n ≤ 6 by omega)).mp hb
            omega
          | some b =>
            rw [hb] at x1
            obtain ⟨b1, b2⟩ := blF_some hb
            have bl := gS_lt C.1 (by omega) b2
            have C1 := CoreM C' F1
            rw [show x = nN b from x1]
            have hlt := Nat.or_lt_two_pow rl bl.2
            refine Ok_bind (M_meanWith C1 bl.2) ?_
            rintro ⟨y, h2⟩ ⟨y1, F2⟩
            simp only at y1 F2 ⊢
            have C2 := CoreM C1 F2
            have m2 := mnA_le (mkA_ok C.1 (rwith_ok C.2.1 (own := 0) hlt)) 0
            have fb : y = nN (fM T R b) := y1
            have m3 : fM T R b ≤ 60000000 := m2
            have pd : 10 ^ (tn T + 1) / 10 = 10 ^ tn T := by rw [Nat.pow_succ]; exact Nat.mul_div_cancel _ (by decide)
            have ps : 10 ^ (tn T + 1) = 10 ^ tn T * 10 := Nat.pow_succ ..
            have pq : 10 ^ tn T ≤ 1000000 := by omega
            have pt : 10 ^ tn T * t ≤ 1000000 * 60 := Nat.mul_le_mul pq (by omega)
            have te : t * 10 ^ (tn T + 1) = 10 * (10 ^ tn T * t) := by rw [ps, Nat.mul_comm t, Nat.mul_comm (10 ^ tn T) 10, Nat.mul_assoc]
            rw [M_aw C2, fb]
            simp only [Option.bind_some]
            have hP2 := hP b h2 hb bl.2 (Fr_trans F' (Fr_trans F1 F2))
            simp (disch := omega) only [L_0, L_1, L_2, L_3, L_4, L_5, L_6, L_7, L_8, L_9, L_10, L_11, L_12, L_13, L_14, L_15, L_16, L_17, L_18, L_19, L_20, L_21, L_22, L_23, L_24, L_25, L_26, L_27, L_28, L_29, L_30, L_31, L_32, L_33, L_34, L_35, L_40, L_41, L_42, L_43, L_44, L_45, L_47, L_48, L_50, L_53, L_57, L_59, L_60, L_61, L_63, L_64, L_97, L_100, L_101, L_102, L_103, L_122, L_130, L_216, L_255, L_364, L_400, L_402, L_420, L_728, L_768, L_999, L_1000, L_1093, L_1872, L_2000, L_9999, L_12345, L_252645135, L_858993459, L_1103515245, L_1431655765, Lm_1, Lm_2, Lm_8, N_zero, N_cast, N_add, N_mul, N_sub, N_addM, N_lt_tp, N_lt_fp, N_le_tp, N_le_fp, N_eq_tp, N_eq_fp, MN_ltp, MN_lep, NM_ltp, NM_lep, NM_eqp, MN_eqp, MM_lt_tp, MM_lt_fp, MM_le_tp, MM_le_fp, MM_eq_tp, MM_eq_fp, N_cl, N_in_t, N_in_f, M_in, N_div, N_rem, N_nb0, N_nb1, cond_true, cond_false, Bool.not_true, Bool.not_false, Bool.and_true, Bool.true_and, Bool.and_false, Bool.false_and, decide_true, decide_false, Option.bind_some, Option.bind_none, pd]
            by_cases z : 10 * fM T R b ≤ t * 10 ^ (tn T + 1)
            · rw [N_le_t (by omega) (by omega)]
              exact Ok_some (hP2.1 z)
            · rw [N_le_f (by omega) (by omega)]
              exact hP2.2 z
        intro k
        induction k with
        | zero =>
          intro n hn h' F'
          rw [Nat.add_zero] at hn
          subst hn
          refine one _ (Nat.le_refl _) h' F' _ fun b h2 hb hbl F2 => ?_
          obtain ⟨b1, b2⟩ := blF_some hb
          have e := sub_all b (by omega) (frL T R) (by omega) b2.1 b2.2
          rw [e, all_zero C.1 C.2.1, Nat.mul_zero]
          exact ⟨fun _ => ⟨rfl, F2⟩, fun y => absurd (Nat.zero_le _) y⟩
        | succ k ih =>
          intro n hn h' F'
          refine one _ (by omega) h' F' _ fun b h2 hb hbl F2 => ?_
          rw [feW, hb]
          refine ⟨fun z => ?_, fun z => ?_⟩
          · rw [if_pos (show 10 * bF T R (some b) ≤ t * 10 ^ (tn T + 1) from z)]
            exact ⟨rfl, F2⟩
          · rw [if_neg (show ¬ 10 * bF T R (some b) ≤ t * 10 ^ (tn T + 1) from z)]
            exact ih (n + 1) (by omega) h2 F2
      show Ok (q_M_fewest sc h0 (nN t)) _
      rw [q_M_fewest_eq]
      simp only [L_0, L_1, L_2, L_3, L_4, L_5, L_6, L_7, L_8, L_9, L_10, L_11, L_12, L_13, L_14, L_15, L_16, L_17, L_18, L_19, L_20, L_21, L_22, L_23, L_24, L_25, L_26, L_27, L_28, L_29, L_30, L_31, L_32, L_33, L_34, L_35, L_40, L_41, L_42, L_43, L_44, L_45, L_47, L_48, L_50, L_53, L_57, L_59, L_60, L_61, L_63, L_64, L_97, L_100, L_101, L_102, L_103, L_122, L_130, L_216, L_255, L_364, L_400, L_402, L_420, L_728, L_768, L_999, L_1000, L_1093, L_1872, L_2000, L_9999, L_12345, L_252645135, L_858993459, L_1103515245, L_1431655765, Lm_1, Lm_2, Lm_8]
      rw [M_in_t (by omega) (by decide)]
      simp (disch := omega) only [L_0, L_1, L_2, L_3, L_4, L_5, L_6, L_7, L_8, L_9, L_10, L_11, L_12, L_13, L_14, L_15, L_16, L_17, L_18, L_19, L_20, L_21, L_22, L_23, L_24, L_25, L_26, L_27, L_28, L_29, L_30, L_31, L_32, L_33, L_34, L_35, L_40, L_41, L_42, L_43, L_44, L_45, L_47, L_48, L_50, L_53, L_57, L_59, L_60, L_61, L_63, L_64, L_97, L_100, L_101, L_102, L_103, L_122, L_130, L_216, L_255, L_364, L_400, L_402, L_420, L_728, L_768, L_999, L_1000, L_1093, L_1872, L_2000, L_9999, L_12345, L_252645135, L_858993459, L_1103515245, L_1431655765, Lm_1, Lm_2, Lm_8, N_zero, N_cast, N_add, N_mul, N_sub, N_addM, N_lt_tp, N_lt_fp, N_le_tp, N_le_fp, N_eq_tp, N_eq_fp, MN_ltp, MN_lep, NM_ltp, NM_lep, NM_eqp, MN_eqp, MM_lt_tp, MM_lt_fp, MM_le_tp, MM_le_fp, MM_eq_tp, MM_eq_fp, N_cl, N_in_t, N_in_f, M_in, N_div, N_rem, N_nb0, N_nb1, cond_true, cond_false, Bool.not_true, Bool.not_false, Bool.and_true, Bool.true_and, Bool.and_false, Bool.false_and, decide_true, decide_false, Option.bind_some, Option.bind_none]
      exact key (pc (frL T R)) 0 (Nat.zero_add _) h0 (Fr_refl _ _)
  · refine pure_query (a := nM 1) C D ?_ ?_
    · show q_X_fewest sc h a = _
      rw [q_X_fewest_eq]
      rcases NM_all a with ⟨k, rfl, hk⟩ | ⟨k, rfl, hk1, hk2⟩
      · have : ¬ k < 60 + 1 := fun t => ha ⟨k, t, rfl⟩
        simp (disch := omega) only [L_0, L_1, L_2, L_3, L_4, L_5, L_6, L_7, L_8, L_9, L_10, L_11, L_12, L_13, L_14, L_15, L_16, L_17, L_18, L_19, L_20, L_21, L_22, L_23, L_24, L_25, L_26, L_27, L_28, L_29, L_30, L_31, L_32, L_33, L_34, L_35, L_40, L_41, L_42, L_43, L_44, L_45, L_47, L_48, L_50, L_53, L_57, L_59, L_60, L_61, L_63, L_64, L_97, L_100, L_101, L_102, L_103, L_122, L_130, L_216, L_255, L_364, L_400, L_402, L_420, L_728, L_768, L_999, L_1000, L_1093, L_1872, L_2000, L_9999, L_12345, L_252645135, L_858993459, L_1103515245, L_1431655765, Lm_1, Lm_2, Lm_8, N_zero, N_cast, N_add, N_mul, N_sub, N_addM, N_lt_tp, N_lt_fp, N_le_tp, N_le_fp, N_eq_tp, N_eq_fp, MN_ltp, MN_lep, NM_ltp, NM_lep, NM_eqp, MN_eqp, MM_lt_tp, MM_lt_fp, MM_le_tp, MM_le_fp, MM_eq_tp, MM_eq_fp, N_cl, N_in_t, N_in_f, M_in, N_div, N_rem, N_nb0, N_nb1, cond_true, cond_false, Bool.not_true, Bool.not_false, Bool.and_true, Bool.true_and, Bool.and_false, Bool.false_and, decide_true, decide_false, Option.bind_some, Option.bind_none, L_60]
      · simp (disch := omega) only [L_0, L_1, L_2, L_3, L_4, L_5, L_6, L_7, L_8, L_9, L_10, L_11, L_12, L_13, L_14, L_15, L_16, L_17, L_18, L_19, L_20, L_21, L_22, L_23, L_24, L_25, L_26, L_27, L_28, L_29, L_30, L_31, L_32, L_33, L_34, L_35, L_40, L_41, L_42, L_43, L_44, L_45, L_47, L_48, L_50, L_53, L_57, L_59, L_60, L_61, L_63, L_64, L_97, L_100, L_101, L_102, L_103, L_122, L_130, L_216, L_255, L_364, L_400, L_402, L_420, L_728, L_768, L_999, L_1000, L_1093, L_1872, L_2000, L_9999, L_12345, L_252645135, L_858993459, L_1103515245, L_1431655765, Lm_1, Lm_2, Lm_8, N_zero, N_cast, N_add, N_mul, N_sub, N_addM, N_lt_tp, N_lt_fp, N_le_tp, N_le_fp, N_eq_tp, N_eq_fp, MN_ltp, MN_lep, NM_ltp, NM_lep, NM_eqp, MN_eqp, MM_lt_tp, MM_lt_fp, MM_le_tp, MM_le_fp, MM_eq_tp, MM_eq_fp, N_cl, N_in_t, N_in_f, M_in, N_div, N_rem, N_nb0, N_nb1, cond_true, cond_false, Bool.not_true, Bool.not_false, Bool.and_true, Bool.true_and, Bool.and_false, Bool.false_and, decide_true, decide_false, Option.bind_some, Option.bind_none]
    · show Ok (q_M_fewest sc h a) _
      rw [q_M_fewest_eq]
      simp only [L_0, L_1, L_2, L_3, L_4, L_5, L_6, L_7, L_8, L_9, L_10, L_11, L_12, L_13, L_14, L_15, L_16, L_17, L_18, L_19, L_20, L_21, L_22, L_23, L_24, L_25, L_26, L_27, L_28, L_29, L_30, L_31, L_32, L_33, L_34, L_35, L_40, L_41, L_42, L_43, L_44, L_45, L_47, L_48, L_50, L_53, L_57, L_59, L_60, L_61, L_63, L_64, L_97, L_100, L_101, L_102, L_103, L_122, L_130, L_216, L_255, L_364, L_400, L_402, L_420, L_728, L_768, L_999, L_1000, L_1093, L_1872, L_2000, L_9999, L_12345, L_252645135, L_858993459, L_1103515245, L_1431655765, Lm_1, Lm_2, Lm_8]
      rw [M_in_f (by decide) ha]
      simp (disch := omega) only [L_0, L_1, L_2, L_3, L_4, L_5, L_6, L_7, L_8, L_9, L_10, L_11, L_12, L_13, L_14, L_15, L_16, L_17, L_18, L_19, L_20, L_21, L_22, L_23, L_24, L_25, L_26, L_27, L_28, L_29, L_30, L_31, L_32, L_33, L_34, L_35, L_40, L_41, L_42, L_43, L_44, L_45, L_47, L_48, L_50, L_53, L_57, L_59, L_60, L_61, L_63, L_64, L_97, L_100, L_101, L_102, L_103, L_122, L_130, L_216, L_255, L_364, L_400, L_402, L_420, L_728, L_768, L_999, L_1000, L_1093, L_1872, L_2000, L_9999, L_12345, L_252645135, L_858993459, L_1103515245, L_1431655765, Lm_1, Lm_2, Lm_8, N_zero, N_cast, N_add, N_mul, N_sub, N_addM, N_lt_tp, N_lt_fp, N_le_tp, N_le_fp, N_eq_tp, N_eq_fp, MN_ltp, MN_lep, NM_ltp, NM_lep, NM_eqp, MN_eqp, MM_lt_tp, MM_lt_fp, MM_le_tp, MM_le_fp, MM_eq_tp, MM_eq_fp, N_cl, N_in_t, N_in_f, M_in, N_div, N_rem, N_nb0, N_nb1, cond_true, cond_false, Bool.not_true, Bool.not_false, Bool.and_true, Bool.true_and, Bool.and_false, Bool.false_and, decide_true, decide_false, Option.bind_some, Option.bind_none]
      exact Ok_some ⟨rfl, Fr_refl _ _⟩
end
