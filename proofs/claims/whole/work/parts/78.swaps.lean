/-! bestSwap. -/
def MS (T : wT) (R : wR) (i j : Nat) : Nat := mnA (mkA T (swpl R i j)) 0
def bsI (T : wT) (R : wR) (i : Nat) : Nat → Nat → Int32 × Nat → Int32 × Nat
  | 0, _, s => s
  | k + 1, j, s => bsI T R i k (j + 1) (if MS T R i j < s.2 then (nN (10 * i + j), MS T R i j) else s)
def bsO (T : wT) (R : wR) : Nat → Nat → Int32 × Nat → Int32 × Nat
  | 0, _, s => s
  | k + 1, i, s => bsO T R k (i + 1) (bsI T R i k (i + 1) s)
theorem MS_le {T : wT} {R : wR} (hT : T_ok T) (hR : R_ok T R) {i j : Nat} (hi : i < tn T) (hj : j < tn T) (hij : i ≠ j) : MS T R i j ≤ 60000000 := mnA_le (mkA_ok hT (swpl_ok hR hi hj hij)) 0
section
variable {sc : wb_X} {B : Nat}
theorem inA_swap {h0 h : wb_H} {T : wT} {R : wR} {q i j : Nat} (hT : T_ok T) (hR : R_ok T R) (hX : XT h0 q T) (I : inA h0 h q T R (tn T)) (hi : i < tn T) (hj : j < tn T) (hij : i ≠ j) : Ok (q_Evening_changePlaces sc h (nN i) (nN j)) (fun h' => Fr SA h h' ∧ inA h0 h' q T (swpl R i j) (tn T)) := by
  have n6 := hT.1
  obtain ⟨I1, I2, I3, I4⟩ := I
  obtain ⟨a1, a2, a3, a4, a5, a6, a7, a8, a9, a10, a11, a12⟩ := XT_fr I1 rfl hX
  have e8 := hT.2.2.2.2.2.2.2.1
  have pi := hR.1 i hi
  have pj := hR.1 j hj
  have ij28 : h.1 28 0 j = nN (rpl R j) := (I4 j hj).2.2.1
  have ii28 : h.1 28 0 i = nN (rpl R i) := (I4 i hi).2.2.1
  have npp : rpl R i ≠ rpl R j := fun y => hij (hR.2.1 i j hi hj y)
  rw [q_Evening_changePlaces_eq]
  simp (disch := omega) only [L_0, L_1, L_2, L_3, L_4, L_5, L_6, L_7, L_8, L_9, L_10, L_11, L_12, L_13, L_14, L_15, L_16, L_17, L_18, L_19, L_20, L_21, L_22, L_23, L_24, L_25, L_26, L_27, L_28, L_29, L_30, L_31, L_32, L_33, L_34, L_35, L_40, L_41, L_42, L_43, L_44, L_45, L_47, L_48, L_50, L_53, L_57, L_59, L_60, L_61, L_63, L_64, L_97, L_100, L_101, L_102, L_103, L_122, L_130, L_216, L_255, L_364, L_400, L_402, L_420, L_728, L_768, L_999, L_1000, L_1093, L_1872, L_2000, L_9999, L_12345, L_252645135, L_858993459, L_1103515245, L_1431655765, Lm_1, Lm_2, Lm_8, N_zero, N_cast, N_add, N_mul, N_sub, N_addM, N_lt_tp, N_lt_fp, N_le_tp, N_le_fp, N_eq_tp, N_eq_fp, MN_ltp, MN_lep, NM_ltp, NM_lep, NM_eqp, MN_eqp, MM_lt_tp, MM_lt_fp, MM_le_tp, MM_le_fp, MM_eq_tp, MM_eq_fp, N_cl, N_in_t, N_in_f, M_in, N_div, N_rem, N_nb0, N_nb1, cond_true, cond_false, Bool.not_true, Bool.not_false, Bool.and_true, Bool.true_and, Bool.and_false, Bool.false_and, decide_true, decide_false, Option.bind_some, Option.bind_none, ij28, ii28]
  rw [X_moveTo (by omega) (by omega) I2 a1 (a9 i hi) (e8 i hi)]
  simp only [Option.bind_some]
  generalize e1 : wb_iu (wb_iu (wb_iu h 28 0 i (nN (rpl R j))) 27 0 (rpl R j) (nN i)) 31 0 (rpl R j) (nN (min (rpl R j) (tse T i))) = k1
  have u2 : k1.2.2 11 0 0 = q + 1 := by rw [← e1]; exact I2
  have u3 : k1.1 50 q j = nN (tse T j) := by rw [← e1, iu_nt (by decide), iu_nt (by decide), iu_nt (by decide)]; exact a9 j hj
  rw [X_moveTo (by omega) (by omega) u2 a1 u3 (e8 j hj)]
  simp only [Option.bind_some]
  have F1 : Fr SA h k1 := by rw [← e1]; exact Fr_trans (Fr_trans (Fr_iu rfl) (Fr_iu rfl)) (Fr_iu rfl)
  have F2 : Fr SA h (wb_iu (wb_iu (wb_iu k1 28 0 j (nN (rpl R i))) 27 0 (rpl R i) (nN j)) 31 0 (rpl R i) (nN (min (rpl R i) (tse T j)))) := Fr_trans F1 (Fr_trans (Fr_trans (Fr_iu rfl) (Fr_iu rfl)) (Fr_iu rfl))
  refine Ok_some ⟨F2, Fr_trans I1 F2, u2, ?_, fun k hk => ?_⟩
  · rw [iu_nt (by decide), iu_nt (by decide), iu_nt (by decide), ← e1, iu_nt (by decide), iu_nt (by decide), iu_nt (by decide)]; exact I3
  · obtain ⟨v1, v2, v3, v4, v5⟩ := I4 k hk
    have hs : rpl (swpl R i j) k = if k = i then rpl R j else if k = j then rpl R i else rpl R k := rfl
    rw [iu_nt (show 29 ≠ 31 by decide), iu_nt (show 29 ≠ 27 by decide), iu_nt (show 29 ≠ 28 by decide), iu_nt (show 30 ≠ 31 by decide), iu_nt (show 30 ≠ 27 by decide), iu_nt (show 30 ≠ 28 by decide), iu_nt (show 28 ≠ 31 by decide), iu_nt (show 28 ≠ 27 by decide), iu_nt (show 27 ≠ 31 by decide)]
    have x29 : k1.1 29 0 k = nN (asu (mkA T (swpl R i j)) k) := by rw [← e1, iu_nt (by decide), iu_nt (by decide), iu_nt (by decide)]; exact v1
    have x30 : k1.1 30 0 k = nN (ahb (mkA T (swpl R i j)) k) := by rw [← e1, iu_nt (by decide), iu_nt (by decide), iu_nt (by decide)]; exact v2
    refine ⟨x29, x30, ?_⟩
    rw [hs]
    by_cases z1 : k = i
    · rw [if_pos z1, z1, iu_ne hij, iu_ne (fun y => npp y.symm), iu_ne (fun y => npp y.symm), iu_nt (show 31 ≠ 27 by decide), iu_nt (show 31 ≠ 28 by decide), iu_nt (show 27 ≠ 28 by decide), ← e1, iu_nt (show 28 ≠ 31 by decide), iu_nt (show 28 ≠ 27 by decide), iu_at, iu_nt (show 27 ≠ 31 by decide), iu_at, iu_at]
      exact ⟨rfl, rfl, rfl⟩
    · by_cases z2 : k = j
      · rw [if_neg z1, if_pos z2, z2, iu_at, iu_at, iu_at]
        exact ⟨rfl, rfl, rfl⟩
      · have hki : rpl R k ≠ rpl R i := fun y => z1 (hR.2.1 k i hk hi y)
        have hkj : rpl R k ≠ rpl R j := fun y => z2 (hR.2.1 k j hk hj y)
        rw [if_neg z1, if_neg z2, iu_ne z2, iu_ne hki, iu_ne hki, iu_nt (show 31 ≠ 27 by decide), iu_nt (show 31 ≠ 28 by decide), iu_nt (show 27 ≠ 28 by decide), ← e1, iu_nt (show 28 ≠ 31 by decide), iu_nt (show 28 ≠ 27 by decide), iu_ne z1, iu_nt (show 27 ≠ 31 by decide), iu_ne hkj, iu_nt (show 27 ≠ 28 by decide), iu_ne hkj, iu_nt (show 31 ≠ 27 by decide), iu_nt (show 31 ≠ 28 by decide)]
        exact ⟨v3, v4, v5⟩
theorem X_changed {h : wb_H} {T : wT} {R : wR} {v q s : Nat} (C : Core h T R v q s B) (D : Cache h T R q) {i j : Nat} (hi : i < tn T) (hj : j < tn T) (hij : i ≠ j) : Ok (q_X_meanIfChanged sc h (nN i) (nN j)) (fun r => r.1 = nN (MS T R i j) ∧ Fr XQQ h r.2 ∧ Cache r.2 T R q) := by
  obtain ⟨e1, e2⟩ := X_ptr C
  have g1 : decide (0 < q + 1) = true := decide_eq_true (by omega)
  have hR' := swpl_ok C.2.1 hi hj hij
  have hA := mkA_ok C.1 hR'
  rw [q_X_meanIfChanged_eq]
  have F0 : Fr [2015] h (wb_iu h 20 0 15 (nN 0)) := Fr_iu rfl
  have C0 : Core (wb_iu h 20 0 15 (nN 0)) T R v q s B := Core_fr F0 rfl rfl rfl rfl C
  have l0 := C0.2.2.2.2.2.2.2.1.1.2.2
  simp (disch := omega) only [L_0, L_1, L_2, L_3, L_4, L_5, L_6, L_7, L_8, L_9, L_10, L_11, L_12, L_13, L_14, L_15, L_16, L_17, L_18, L_19, L_20, L_21, L_22, L_23, L_24, L_25, L_26, L_27, L_28, L_29, L_30, L_31, L_32, L_33, L_34, L_35, L_40, L_41, L_42, L_43, L_44, L_45, L_47, L_48, L_50, L_53, L_57, L_59, L_60, L_61, L_63, L_64, L_97, L_100, L_101, L_102, L_103, L_122, L_130, L_216, L_255, L_364, L_400, L_402, L_420, L_728, L_768, L_999, L_1000, L_1093, L_1872, L_2000, L_9999, L_12345, L_252645135, L_858993459, L_1103515245, L_1431655765, Lm_1, Lm_2, Lm_8, N_zero, N_cast, N_add, N_mul, N_sub, N_addM, N_lt_tp, N_lt_fp, N_le_tp, N_le_fp, N_eq_tp, N_eq_fp, MN_ltp, MN_lep, NM_ltp, NM_lep, NM_eqp, MN_eqp, MM_lt_tp, MM_lt_fp, MM_le_tp, MM_le_fp, MM_eq_tp, MM_eq_fp, N_cl, N_in_t, N_in_f, M_in, N_div, N_rem, N_nb0, N_nb1, cond_true, cond_false, Bool.not_true, Bool.not_false, Bool.and_true, Bool.true_and, Bool.and_false, Bool.false_and, decide_true, decide_false, Option.bind_some, Option.bind_none, wb_iu_2, e1, Nat.add_sub_cancel, g1, l0]
  refine Ok_bind (X_arrange C0.1 C0.2.1 C0.2.2.2.1 C0.2.2.2.2.2.2.2.1.1 C0.2.1.2.2.2.2 (by decide)) ?_
  rintro h1 ⟨F1, IN, -⟩
  rw [rwith_self] at IN
  refine Ok_bind (inA_swap C.1 C.2.1 C0.2.2.2.1 IN hi hj hij) ?_
  rintro h1b ⟨F1b, IN2⟩
  have A1 := XA_mk C.1 hR' C0.2.2.2.1 IN2
  refine Ok_bind (X_unfold hA (Nat.zero_le _) A1) ?_
  rintro h2 ⟨F2, E2⟩
  rw [X_allWrong hA (XA_fr F2 rfl A1) E2]
  have F : Fr (SA ++ SX ++ [2015]) h h2 := Fr_trans (Fr_mono F0 rfl) (Fr_trans (Fr_mono (Fr_trans F1 F1b) rfl) (Fr_mono F2 rfl))
  have e15 : h2.1 20 0 15 = nN 0 := (Fr_i F2 (by rfl)).trans ((Fr_i F1b (by rfl)).trans ((Fr_i F1 (by rfl)).trans iu_at))
  exact Ok_some ⟨rfl, Fr_mono F rfl, Cache_off D F rfl e15⟩
theorem M_changed {h : wb_H} {T : wT} {R : wR} {v q s : Nat} (C : Core h T R v q s B) {i j : Nat} (hi : i < tn T) (hj : j < tn T) (hij : i ≠ j) {P : Int32 × wb_H → Prop} {f : Int32 × wb_H → Option (Int32 × wb_H)} (hf : ∀ r, r.1 = nN (MS T R i j) → Fr MQQ h r.2 → Ok (f r) P) : Ok ((q_M_copies sc h).bind fun h1 => ((q_M_swaps sc h1 (nN i) (nN j)).bind fun h2 => ((q_M_meanNow sc h2).bind f))) P := by
  have n6 := C.1.1
  refine Ok_bind (M_copies C) ?_
  rintro h1 ⟨F1, g1, g2, g3⟩
  have r1 := Row_now C g1
  rw [q_M_swaps_eq]
  simp (disch := omega) only [L_0, L_1, L_2, L_3, L_4, L_5, L_6, L_7, L_8, L_9, L_10, L_11, L_12, L_13, L_14, L_15, L_16, L_17, L_18, L_19, L_20, L_21, L_22, L_23, L_24, L_25, L_26, L_27, L_28, L_29, L_30, L_31, L_32, L_33, L_34, L_35, L_40, L_41, L_42, L_43, L_44, L_45, L_47, L_48, L_50, L_53, L_57, L_59, L_60, L_61, L_63, L_64, L_97, L_100, L_101, L_102, L_103, L_122, L_130, L_216, L_255, L_364, L_400, L_402, L_420, L_728, L_768, L_999, L_1000, L_1093, L_1872, L_2000, L_9999, L_12345, L_252645135, L_858993459, L_1103515245, L_1431655765, Lm_1, Lm_2, Lm_8, N_zero, N_cast, N_add, N_mul, N_sub, N_addM, N_lt_tp, N_lt_fp, N_le_tp, N_le_fp, N_eq_tp, N_eq_fp, MN_ltp, MN_lep, NM_ltp, NM_lep, NM_eqp, MN_eqp, MM_lt_tp, MM_lt_fp, MM_le_tp, MM_le_fp, MM_eq_tp, MM_eq_fp, N_cl, N_in_t, N_in_f, M_in, N_div, N_rem, N_nb0, N_nb1, cond_true, cond_false, Bool.not_true, Bool.not_false, Bool.and_true, Bool.true_and, Bool.and_false, Bool.false_and, decide_true, decide_false, Option.bind_some, Option.bind_none]
  have F2 : Fr [96, 1049, 1050] h (wb_iu (wb_iu h1 96 0 i (h1.1 96 0 j)) 96 0 j (h1.1 96 0 i)) := Fr_trans F1 (Fr_trans (Fr_iu rfl) (Fr_iu rfl))
  have r0 : ∀ k, k < tn T → h1.1 96 0 k = nN (rpl R k) := fun k hk => by have := r1.1 k hk; rwa [Nat.zero_add] at this
  have r2 : Row (wb_iu (wb_iu h1 96 0 i (h1.1 96 0 j)) 96 0 j (h1.1 96 0 i)) 96 0 T (swpl R i j) := by
    refine ⟨fun k hk => ?_, fun k hk => ?_, ?_⟩
    · rw [Nat.zero_add]
      show _ = nN (if k = i then rpl R j else if k = j then rpl R i else rpl R k)
      by_cases z1 : k = i
      · rw [if_pos z1, z1, iu_ne hij, iu_at]
        exact r0 j hj
      · by_cases z2 : k = j
        · rw [if_neg z1, if_pos z2, z2, iu_at]
          exact r0 i hi
        · rw [if_neg z1, if_neg z2, iu_ne z2, iu_ne z1]
          exact r0 k hk
    · rw [iu_ne (by omega), iu_ne (by omega)]
      exact r1.2.1 k hk
    · rw [iu_ne (by omega), iu_ne (by omega)]
      exact r1.2.2
  refine Ok_bind (M_meanRow C F2 (swpl_ok C.2.1 hi hj hij) r2 (Nat.zero_le _) (by rw [iu_nt (by decide), iu_nt (by decide)]; exact g3)) ?_
  rintro r ⟨a, b⟩
  exact hf r a b
theorem c_bestSwap {h : wb_H} (I : Inv h B) : Same (fun h => q_X_bestSwap sc h) (fun h => q_M_bestSwap sc h) h B := by
  obtain ⟨T, R, v, q, s, C, D⟩ := I
  have n6 := C.1.1
  have hA := mkA_ok C.1 C.2.1
  have hm := mnA_le hA 0
  refine query (a := (bsO T R (tn T) 0 (nM 2, mnA (mkA T R) 0)).1) C ?_ ?_
  · have inner : ∀ i, i < tn T → ∀ (P : Int32 × wb_H → Prop) k j, j + k = tn T → i < j → ∀ h' st, Fr XQQ h h' → Cache h' T R q → st.2 ≤ 60000000 → (∀ h2, Fr XQQ h h2 → Cache h2 T R q → (bsI T R i k j st).2 ≤ 60000000 → Ok (q_X_bestSwap_L17 sc h2 (bsI T R i k j st).1 (nN (bsI T R i k j st).2) (nN (i + 1))) P) → Ok (q_X_bestSwap_L33 sc h' st.1 (nN st.2) (nN i) (nN j)) P := by
      intro i hi P k
      induction k with
      | zero =>
        intro j hj hij h' st F' D' hst hP
        rw [Nat.add_zero] at hj
        subst hj
        have C' := CoreX C F'
        obtain ⟨e1, e2⟩ := X_ptr C'
        have g1 : decide (0 < q + 1) = true := decide_eq_true (by omega)
        have g3 : decide (q < 2) = true := decide_eq_true e2
        have f := C'.2.2.2.1.2.1
        rw [q_X_bestSwap_L33_eq]
        simp (disch := omega) only [L_0, L_1, L_2, L_3, L_4, L_5, L_6, L_7, L_8, L_9, L_10, L_11, L_12, L_13, L_14, L_15, L_16, L_17, L_18, L_19, L_20, L_21, L_22, L_23, L_24, L_25, L_26, L_27, L_28, L_29, L_30, L_31, L_32, L_33, L_34, L_35, L_40, L_41, L_42, L_43, L_44, L_45, L_47, L_48, L_50, L_53, L_57, L_59, L_60, L_61, L_63, L_64, L_97, L_100, L_101, L_102, L_103, L_122, L_130, L_216, L_255, L_364, L_400, L_402, L_420, L_728, L_768, L_999, L_1000, L_1093, L_1872, L_2000, L_9999, L_12345, L_252645135, L_858993459, L_1103515245, L_1431655765, Lm_1, Lm_2, Lm_8, N_zero, N_cast, N_add, N_mul, N_sub, N_addM, N_lt_tp, N_lt_fp, N_le_tp, N_le_fp, N_eq_tp, N_eq_fp, MN_ltp, MN_lep, NM_ltp, NM_lep, NM_eqp, MN_eqp, MM_lt_tp, MM_lt_fp, MM_le_tp, MM_le_fp, MM_eq_tp, MM_eq_fp, N_cl, N_in_t, N_in_f, M_in, N_div, N_rem, N_nb0, N_nb1, cond_true, cond_false, Bool.not_true, Bool.not_false, Bool.and_true, Bool.true_and, Bool.and_false, Bool.false_and, decide_true, decide_false, Option.bind_some, Option.bind_none, e1, Nat.add_sub_cancel, g1, g3, f]
        exact hP h' F' D' hst
      | succ k ih =>
        intro j hj hij h' st F' D' hst hP
        have C' := CoreX C F'
        obtain ⟨e1, e2⟩ := X_ptr C'
        have g1 : decide (0 < q + 1) = true := decide_eq_true (by omega)
        have g3 : decide (q < 2) = true := decide_eq_true e2
        have f := C'.2.2.2.1.2.1
        have ml := MS_le C.1 C.2.1 hi (show j < tn T by omega) (show i ≠ j by omega)
        rw [q_X_bestSwap_L33_eq]
        simp (disch := omega) only [L_0, L_1, L_2, L_3, L_4, L_5, L_6, L_7, L_8, L_9, L_10, L_11, L_12, L_13, L_14, L_15, L_16, L_17, L_18, L_19, L_20, L_21, L_22, L_23, L_24, L_25, L_26, L_27, L_28, L_29, L_30, L_31, L_32, L_33, L_34, L_35, L_40, L_41, L_42, L_43, L_44, L_45, L_47, L_48, L_50, L_53, L_57, L_59, L_60, L_61, L_63, L_64, L_97, L_100, L_101, L_102, L_103, L_122, L_130, L_216, L_255, L_364, L_400, L_402, L_420, L_728, L_768, L_999, L_1000, L_1093, L_1872, L_2000, L_9999, L_12345, L_252645135, L_858993459, L_1103515245, L_1431655765, Lm_1, Lm_2, Lm_8, N_zero, N_cast, N_add, N_mul, N_sub, N_addM, N_lt_tp, N_lt_fp, N_le_tp, N_le_fp, N_eq_tp, N_eq_fp, MN_ltp, MN_lep, NM_ltp, NM_lep, NM_eqp, MN_eqp, MM_lt_tp, MM_lt_fp, MM_le_tp, MM_le_fp, MM_eq_tp, MM_eq_fp, N_cl, N_in_t, N_in_f, M_in, N_div, N_rem, N_nb0, N_nb1, cond_true, cond_false, Bool.not_true, Bool.not_false, Bool.and_true, Bool.true_and, Bool.and_false, Bool.false_and, decide_true, decide_false, Option.bind_some, Option.bind_none, e1, Nat.add_sub_cancel, g1, g3, f]
        refine Ok_bind (X_changed C' D' hi (by omega) (by omega)) ?_
        rintro ⟨y, h2⟩ ⟨y1, F2, D2⟩
        simp only at y1 F2 D2 ⊢
        rw [y1]
        by_cases z : MS T R i j < st.2
        · rw [N_le_f z (by omega)]
          have := ih (j + 1) (by omega) (by omega) h2 (nN (10 * i + j), MS T R i j) (Fr_trans F' F2) D2 ml
          rw [bsI, if_pos z] at hP
          exact this hP
        · rw [N_le_t (by omega) (by omega)]
          have := ih (j + 1) (by omega) (by omega) h2 st (Fr_trans F' F2) D2 hst
          rw [bsI, if_neg z] at hP
          exact this hP
    have outer : ∀ k i, i + k = tn T → ∀ h' st, Fr XQQ h h' → Cache h' T R q → st.2 ≤ 60000000 → Ok (q_X_bestSwap_L17 sc h' st.1 (nN st.2) (nN i)) (fun r => r.1 = (bsO T R k i st).1 ∧ Fr XQQ h r.2 ∧ Cache r.2 T R q) := by
      intro k
      induction k with
      | zero =>
        intro i hi h' st F' D' hst
        rw [Nat.add_zero] at hi
        subst hi
        have C' := CoreX C F'
        obtain ⟨e1, e2⟩ := X_ptr C'
        have g1 : decide (0 < q + 1) = true := decide_eq_true (by omega)
        have g3 : decide (q < 2) = true := decide_eq_true e2
        have f := C'.2.2.2.1.2.1
        rw [q_X_bestSwap_L17_eq]
        simp (disch := omega) only [L_0, L_1, L_2, L_3, L_4, L_5, L_6, L_7, L_8, L_9, L_10, L_11, L_12, L_13, L_14, L_15, L_16, L_17, L_18, L_19, L_20, L_21, L_22, L_23, L_24, L_25, L_26, L_27, L_28, L_29, L_30, L_31, L_32, L_33, L_34, L_35, L_40, L_41, L_42, L_43, L_44, L_45, L_47, L_48, L_50, L_53, L_57, L_59, L_60, L_61, L_63, L_64, L_97, L_100, L_101, L_102, L_103, L_122, L_130, L_216, L_255, L_364, L_400, L_402, L_420, L_728, L_768, L_999, L_1000, L_1093, L_1872, L_2000, L_9999, L_12345, L_252645135, L_858993459, L_1103515245, L_1431655765, Lm_1, Lm_2, Lm_8, N_zero, N_cast, N_add, N_mul, N_sub, N_addM, N_lt_tp, N_lt_fp, N_le_tp, N_le_fp, N_eq_tp, N_eq_fp, MN_ltp, MN_lep, NM_ltp, NM_lep, NM_eqp, MN_eqp, MM_lt_tp, MM_lt_fp, MM_le_tp, MM_le_fp, MM_eq_tp, MM_eq_fp, N_cl, N_in_t, N_in_f, M_in, N_div, N_rem, N_nb0, N_nb1, cond_true, cond_false, Bool.not_true, Bool.not_false, Bool.and_true, Bool.true_and, Bool.and_false, Bool.false_and, decide_true, decide_false, Option.bind_some, Option.bind_none, e1, Nat.add_sub_cancel, g1, g3, f]
        exact Ok_some ⟨rfl, F', D'⟩
      | succ k ih =>
        intro i hi h' st F' D' hst
        have C' := CoreX C F'
        obtain ⟨e1, e2⟩ := X_ptr C'
        have g1 : decide (0 < q + 1) = true := decide_eq_true (by omega)
        have g3 : decide (q < 2) = true := decide_eq_true e2
        have f := C'.2.2.2.1.2.1
        rw [q_X_bestSwap_L17_eq]
        simp (disch := omega) only [L_0, L_1, L_2, L_3, L_4, L_5, L_6, L_7, L_8, L_9, L_10, L_11, L_12, L_13, L_14, L_15, L_16, L_17, L_18, L_19, L_20, L_21, L_22, L_23, L_24, L_25, L_26, L_27, L_28, L_29, L_30, L_31, L_32, L_33, L_34, L_35, L_40, L_41, L_42, L_43, L_44, L_45, L_47, L_48, L_50, L_53, L_57, L_59, L_60, L_61, L_63, L_64, L_97, L_100, L_101, L_102, L_103, L_122, L_130, L_216, L_255, L_364, L_400, L_402, L_420, L_728, L_768, L_999, L_1000, L_1093, L_1872, L_2000, L_9999, L_12345, L_252645135, L_858993459, L_1103515245, L_1431655765, Lm_1, Lm_2, Lm_8, N_zero, N_cast, N_add, N_mul, N_sub, N_addM, N_lt_tp, N_lt_fp, N_le_tp, N_le_fp, N_eq_tp, N_eq_fp, MN_ltp, MN_lep, NM_ltp, NM_lep, NM_eqp, MN_eqp, MM_lt_tp, MM_lt_fp, MM_le_tp, MM_le_fp, MM_eq_tp, MM_eq_fp, N_cl, N_in_t, N_in_f, M_in, N_div, N_rem, N_nb0, N_nb1, cond_true, cond_false, Bool.not_true, Bool.not_false, Bool.and_true, Bool.true_and, Bool.and_false, Bool.false_and, decide_true, decide_false, Option.bind_some, Option.bind_none, e1, Nat.add_sub_cancel, g1, g3, f]
        refine inner i (by omega) _ k (i + 1) (by omega) (by omega) h' st F' D' hst fun h2 F2 D2 le2 => ?_
        exact ih (i + 1) (by omega) h2 _ F2 D2 le2
    show Ok (q_X_bestSwap sc h) _
    rw [q_X_bestSwap_eq, C.2.2.2.2.2.2.2.1.1.2.2]
    refine Ok_bind (X_meanWith C D C.2.1.2.2.2.2) ?_
    rintro ⟨x, h1⟩ ⟨x1, F1, D1⟩
    rw [rwith_self] at x1
    simp only at x1 F1 D1 ⊢
    rw [x1]
    exact outer (tn T) 0 (Nat.zero_add _) h1 (nM 2, mnA (mkA T R) 0) F1 D1 hm
  · intro h0 C0
    have inner : ∀ i, i < tn T → ∀ (P : Int32 × wb_H → Prop) k j, j + k = tn T → i < j → ∀ h' (st : Int32 × Nat), Fr MQQ h0 h' → st.2 ≤ 60000000 → (∀ h2, Fr MQQ h0 h2 → (bsI T R i k j st).2 ≤ 60000000 → Ok (q_M_bestSwap_L14 sc h2 (nN (bsI T R i k j st).2) (bsI T R i k j st).1 (nN (i + 1))) P) → Ok (q_M_bestSwap_L32 sc h' (nN st.2) st.1 (nN i) (nN j)) P := by
      intro i hi P k
      induction k with
      | zero =>
        intro j hj hij h' st F' hst hP
        rw [Nat.add_zero] at hj
        subst hj
        obtain ⟨a1, a2, a3, -⟩ := (CoreM C0 F').2.2.2.2.1
        rw [q_M_bestSwap_L32_eq]
        simp (disch := omega) only [L_0, L_1, L_2, L_3, L_4, L_5, L_6, L_7, L_8, L_9, L_10, L_11, L_12, L_13, L_14, L_15, L_16, L_17, L_18, L_19, L_20, L_21, L_22, L_23, L_24, L_25, L_26, L_27, L_28, L_29, L_30, L_31, L_32, L_33, L_34, L_35, L_40, L_41, L_42, L_43, L_44, L_45, L_47, L_48, L_50, L_53, L_57, L_59, L_60, L_61, L_63, L_64, L_97, L_100, L_101, L_102, L_103, L_122, L_130, L_216, L_255, L_364, L_400, L_402, L_420, L_728, L_768, L_999, L_1000, L_1093, L_1872, L_2000, L_9999, L_12345, L_252645135, L_858993459, L_1103515245, L_1431655765, Lm_1, Lm_2, Lm_8, N_zero, N_cast, N_add, N_mul, N_sub, N_addM, N_lt_tp, N_lt_fp, N_le_tp, N_le_fp, N_eq_tp, N_eq_fp, MN_ltp, MN_lep, NM_ltp, NM_lep, NM_eqp, MN_eqp, MM_lt_tp, MM_lt_fp, MM_le_tp, MM_le_fp, MM_eq_tp, MM_eq_fp, N_cl, N_in_t, N_in_f, M_in, N_div, N_rem, N_nb0, N_nb1, cond_true, cond_false, Bool.not_true, Bool.not_false, Bool.and_true, Bool.true_and, Bool.and_false, Bool.false_and, decide_true, decide_false, Option.bind_some, Option.bind_none, a2, a3]
        exact hP h' F' hst
      | succ k ih =>
        intro j hj hij h' st F' hst hP
        have C' := CoreM C0 F'
        obtain ⟨a1, a2, a3, -⟩ := C'.2.2.2.2.1
        have ml := MS_le C.1 C.2.1 hi (show j < tn T by omega) (show i ≠ j by omega)
        rw [q_M_bestSwap_L32_eq]
        simp (disch := omega) only [L_0, L_1, L_2, L_3, L_4, L_5, L_6, L_7, L_8, L_9, L_10, L_11, L_12, L_13, L_14, L_15, L_16, L_17, L_18, L_19, L_20, L_21, L_22, L_23, L_24, L_25, L_26, L_27, L_28, L_29, L_30, L_31, L_32, L_33, L_34, L_35, L_40, L_41, L_42, L_43, L_44, L_45, L_47, L_48, L_50, L_53, L_57, L_59, L_60, L_61, L_63, L_64, L_97, L_100, L_101, L_102, L_103, L_122, L_130, L_216, L_255, L_364, L_400, L_402, L_420, L_728, L_768, L_999, L_1000, L_1093, L_1872, L_2000, L_9999, L_12345, L_252645135, L_858993459, L_1103515245, L_1431655765, Lm_1, Lm_2, Lm_8, N_zero, N_cast, N_add, N_mul, N_sub, N_addM, N_lt_tp, N_lt_fp, N_le_tp, N_le_fp, N_eq_tp, N_eq_fp, MN_ltp, MN_lep, NM_ltp, NM_lep, NM_eqp, MN_eqp, MM_lt_tp, MM_lt_fp, MM_le_tp, MM_le_fp, MM_eq_tp, MM_eq_fp, N_cl, N_in_t, N_in_f, M_in, N_div, N_rem, N_nb0, N_nb1, cond_true, cond_false, Bool.not_true, Bool.not_false, Bool.and_true, Bool.true_and, Bool.and_false, Bool.false_and, decide_true, decide_false, Option.bind_some, Option.bind_none, a2, a3]
        refine M_changed C' hi (by omega) (by omega) ?_
        rintro ⟨y, h2⟩ y1 F2
        simp only at y1 F2 ⊢
        rw [y1]
        by_cases z : MS T R i j < st.2
        · rw [N_lt_t z (by omega)]
          have := ih (j + 1) (by omega) (by omega) h2 (nN (10 * i + j), MS T R i j) (Fr_trans F' F2) ml
          rw [bsI, if_pos z] at hP
          exact this hP
        · rw [N_lt_f (by omega) (by omega)]
          have := ih (j + 1) (by omega) (by omega) h2 st (Fr_trans F' F2) hst
          rw [bsI, if_neg z] at hP
          exact this hP
    have outer : ∀ k i, i + k = tn T → ∀ h' (st : Int32 × Nat), Fr MQQ h0 h' → st.2 ≤ 60000000 → Ok (q_M_bestSwap_L14 sc h' (nN st.2) st.1 (nN i)) (fun r => r.1 = (bsO T R k i st).1 ∧ Fr MQQ h0 r.2) := by
      intro k
      induction k with
      | zero =>
        intro i hi h' st F' hst
        rw [Nat.add_zero] at hi
        subst hi
        obtain ⟨a1, a2, a3, -⟩ := (CoreM C0 F').2.2.2.2.1
        rw [q_M_bestSwap_L14_eq]
        simp (disch := omega) only [L_0, L_1, L_2, L_3, L_4, L_5, L_6, L_7, L_8, L_9, L_10, L_11, L_12, L_13, L_14, L_15, L_16, L_17, L_18, L_19, L_20, L_21, L_22, L_23, L_24, L_25, L_26, L_27, L_28, L_29, L_30, L_31, L_32, L_33, L_34, L_35, L_40, L_41, L_42, L_43, L_44, L_45, L_47, L_48, L_50, L_53, L_57, L_59, L_60, L_61, L_63, L_64, L_97, L_100, L_101, L_102, L_103, L_122, L_130, L_216, L_255, L_364, L_400, L_402, L_420, L_728, L_768, L_999, L_1000, L_1093, L_1872, L_2000, L_9999, L_12345, L_252645135, L_858993459, L_1103515245, L_1431655765, Lm_1, Lm_2, Lm_8, N_zero, N_cast, N_add, N_mul, N_sub, N_addM, N_lt_tp, N_lt_fp, N_le_tp, N_le_fp, N_eq_tp, N_eq_fp, MN_ltp, MN_lep, NM_ltp, NM_lep, NM_eqp, MN_eqp, MM_lt_tp, MM_lt_fp, MM_le_tp, MM_le_fp, MM_eq_tp, MM_eq_fp, N_cl, N_in_t, N_in_f, M_in, N_div, N_rem, N_nb0, N_nb1, cond_true, cond_false, Bool.not_true, Bool.not_false, Bool.and_true, Bool.true_and, Bool.and_false, Bool.false_and, decide_true, decide_false, Option.bind_some, Option.bind_none, a2, a3]
        exact Ok_some ⟨rfl, F'⟩
      | succ k ih =>
        intro i hi h' st F' hst
        obtain ⟨a1, a2, a3, -⟩ := (CoreM C0 F').2.2.2.2.1
        rw [q_M_bestSwap_L14_eq]
        simp (disch := omega) only [L_0, L_1, L_2, L_3, L_4, L_5, L_6, L_7, L_8, L_9, L_10, L_11, L_12, L_13, L_14, L_15, L_16, L_17, L_18, L_19, L_20, L_21, L_22, L_23, L_24, L_25, L_26, L_27, L_28, L_29, L_30, L_31, L_32, L_33, L_34, L_35, L_40, L_41, L_42, L_43, L_44, L_45, L_47, L_48, L_50, L_53, L_57, L_59, L_60, L_61, L_63, L_64, L_97, L_100, L_101, L_102, L_103, L_122, L_130, L_216, L_255, L_364, L_400, L_402, L_420, L_728, L_768, L_999, L_1000, L_1093, L_1872, L_2000, L_9999, L_12345, L_252645135, L_858993459, L_1103515245, L_1431655765, Lm_1, Lm_2, Lm_8, N_zero, N_cast, N_add, N_mul, N_sub, N_addM, N_lt_tp, N_lt_fp, N_le_tp, N_le_fp, N_eq_tp, N_eq_fp, MN_ltp, MN_lep, NM_ltp, NM_lep, NM_eqp, MN_eqp, MM_lt_tp, MM_lt_fp, MM_le_tp, MM_le_fp, MM_eq_tp, MM_eq_fp, N_cl, N_in_t, N_in_f, M_in, N_div, N_rem, N_nb0, N_nb1, cond_true, cond_false, Bool.not_true, Bool.not_false, Bool.and_true, Bool.true_and, Bool.and_false, Bool.false_and, decide_true, decide_false, Option.bind_some, Option.bind_none, a2, a3]
        refine inner i (by omega) _ k (i + 1) (by omega) (by omega) h' st F' hst fun h2 F2 le2 => ?_
        exact ih (i + 1) (by omega) h2 _ F2 le2
    show Ok (q_M_bestSwap sc h0) _
    rw [q_M_bestSwap_eq]
    refine Ok_bind (M_copies C0) ?_
    rintro h2 ⟨F2, g1, g2, g3⟩
    have A2 := MA_now C0 F2 rfl rfl C.2.1 (Row_now C0 g1)
    refine Ok_bind (M_meanNow hA A2 (Nat.zero_le _) g3) ?_
    rintro ⟨x, h3⟩ ⟨x1, F3⟩
    simp only at x1 F3 ⊢
    rw [x1]
    exact outer (tn T) 0 (Nat.zero_add _) h3 (nM 2, mnA (mkA T R) 0) (Fr_trans (Fr_mono F2 rfl) (Fr_mono F3 rfl)) hm
end
