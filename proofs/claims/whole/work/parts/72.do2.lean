/-! Things done: swap, habit. -/
theorem mem14 {k : Nat} {L : List Nat} (d : ∀ x, wb_mem x L = true → x < 9000 ∨ 9003 ≤ x) (hk : k ≤ 2) : wb_mem (kc 14 k) L = false := by
  have e : kc 14 k = 9000 + k := rfl
  rw [e]
  cases h : wb_mem (9000 + k) L with
  | false => rfl
  | true => have := d _ h; omega
section
variable {sc : wb_X} {B : Nat}
theorem X_tail {h h1 h2 : wb_H} {nx c : Nat} (F1 : Fr [17, 54, 9001, 9002] h h1) (P1 : XP h h1 nx c) (F2 : Fr [17, 54] h1 h2) (o17 : ∀ o, o ≠ 0 → ∀ k, h2.1 17 o k = h1.1 17 o k ∧ h2.1 54 o k = h1.1 54 o k) : Ok (q_X_forgetAnswers sc h2) (fun h3 => Fr XD h h3 ∧ XP h h3 nx c ∧ h3.1 20 0 15 = nN 0 ∧ h3.1 20 0 14 = nM 1 ∧ (∀ l, l < 64 → h3.1 62 0 l = nM 1) ∧ (∀ k, h3.1 17 0 k = h2.1 17 0 k) ∧ (∀ k, h3.1 54 0 k = h2.1 54 0 k)) := by
  refine Ok_w X_forgetA ?_
  rintro h3 ⟨F3, w1, w2, w3⟩
  obtain ⟨P11, P12, P13, P14, P15⟩ := P1
  have f17 : ∀ o k, h3.1 17 o k = h2.1 17 o k := fun o k => Fr_i F3 (by rfl)
  have f54 : ∀ o k, h3.1 54 o k = h2.1 54 o k := fun o k => Fr_i F3 (by rfl)
  refine ⟨Fr_trans (Fr_mono F1 rfl) (Fr_trans (Fr_mono F2 rfl) (Fr_mono F3 rfl)), ⟨?_, ?_, fun k hk hk1 => ?_, fun k hk => ?_, fun o ho1 ho2 k => ⟨?_, ?_⟩⟩, w1, w2, w3, f17 0, f54 0⟩
  · rw [Fr_i F3 (t := 14) (by rfl), Fr_i F2 (t := 14) (by rfl)]; exact P11
  · rw [Fr_i F3 (t := 14) (by rfl), Fr_i F2 (t := 14) (by rfl)]; exact P12
  · rw [f17, (o17 _ (by omega) _).1]; exact P13 k hk hk1
  · rw [f54, (o17 _ (by omega) _).2]; exact P14 k hk
  · rw [f17, (o17 _ ho2 _).1]; exact (P15 o ho1 ho2 k).1
  · rw [f54, (o17 _ ho2 _).2]; exact (P15 o ho1 ho2 k).2
/-- behind the class's part the reference still sees what it told and how it stands -/
theorem M_side {h h2 : wb_H} {T : wT} {R : wR} {v q s : Nat} (C : Core h T R v q s B) (F2 : Fr XD h h2) : MT h2 s T ∧ (∀ k, h2.1 95 0 k = h.1 95 0 k) ∧ (∀ i, i < tn T → q_M_isHouse sc h2 (nN i) = some (nN 1, h2)) ∧ Ok (q_M_copies sc h2) (fun h' => Fr [96, 1049, 1050] h2 h' ∧ (∀ i, i < 48 → h'.1 96 0 i = h.1 95 0 i)) := by
  have n6 := C.1.1
  have Ma := MT_fr F2 rfl rfl C.2.2.2.2.1
  have b95 : ∀ k, h2.1 95 0 k = h.1 95 0 k := fun k => Fr_i F2 (by rfl)
  refine ⟨Ma, b95, fun i hi => ?_, ?_⟩
  · obtain ⟨a1, a2, a3, -⟩ := Ma
    rw [q_M_isHouse_eq]
    simp (disch := omega) only [L_0, L_1, L_2, L_3, L_4, L_5, L_6, L_7, L_8, L_9, L_10, L_11, L_12, L_13, L_14, L_15, L_16, L_17, L_18, L_19, L_20, L_21, L_22, L_23, L_24, L_25, L_26, L_27, L_28, L_29, L_30, L_31, L_32, L_33, L_34, L_35, L_40, L_41, L_42, L_43, L_44, L_45, L_47, L_48, L_50, L_53, L_57, L_59, L_60, L_61, L_63, L_64, L_97, L_100, L_101, L_102, L_103, L_122, L_130, L_216, L_255, L_364, L_400, L_402, L_420, L_728, L_768, L_999, L_1000, L_1093, L_1872, L_2000, L_9999, L_12345, L_252645135, L_858993459, L_1103515245, L_1431655765, Lm_1, Lm_2, Lm_8, N_zero, N_cast, N_add, N_mul, N_sub, N_addM, N_lt_tp, N_lt_fp, N_le_tp, N_le_fp, N_eq_tp, N_eq_fp, MN_ltp, MN_lep, NM_ltp, NM_lep, NM_eqp, MN_eqp, MM_lt_tp, MM_lt_fp, MM_le_tp, MM_le_fp, MM_eq_tp, MM_eq_fp, N_cl, N_in_t, N_in_f, M_in, N_div, N_rem, N_nb0, N_nb1, cond_true, cond_false, Bool.not_true, Bool.not_false, Bool.and_true, Bool.true_and, Bool.and_false, Bool.false_and, decide_true, decide_false, Option.bind_some, Option.bind_none, a2, a3, M_in_t (sc := sc) (h := h2) (show i ≤ tn T - 1 by omega) (show tn T - 1 ≤ 2147483647 by omega)]
  · rw [q_M_copies_eq]
    simp only [L_0, L_1, L_2, L_3, L_4, L_5, L_6, L_7, L_8, L_9, L_10, L_11, L_12, L_13, L_14, L_15, L_16, L_17, L_18, L_19, L_20, L_21, L_22, L_23, L_24, L_25, L_26, L_27, L_28, L_29, L_30, L_31, L_32, L_33, L_34, L_35, L_40, L_41, L_42, L_43, L_44, L_45, L_47, L_48, L_50, L_53, L_57, L_59, L_60, L_61, L_63, L_64, L_97, L_100, L_101, L_102, L_103, L_122, L_130, L_216, L_255, L_364, L_400, L_402, L_420, L_728, L_768, L_999, L_1000, L_1093, L_1872, L_2000, L_9999, L_12345, L_252645135, L_858993459, L_1103515245, L_1431655765, Lm_1, Lm_2, Lm_8]
    refine Ok_w (M_copies_L Ma.1 Ma.2.1 48 0 rfl h2 (Fr_refl _ _) (fun i hi => by omega)) ?_
    rintro h' ⟨a, b, c, d⟩
    exact ⟨a, fun i hi => (b i hi).trans (b95 i)⟩
def swpl (R : wR) (i j : Nat) : wR := ((fun k => if k = i then rpl R j else if k = j then rpl R i else rpl R k), (rov R, rlf R))
theorem swpl_ok {T : wT} {R : wR} (hR : R_ok T R) {i j : Nat} (hi : i < tn T) (hj : j < tn T) (hij : i ≠ j) : R_ok T (swpl R i j) := by
  obtain ⟨a1, a2, a3, a4, a5⟩ := hR
  have e : ∀ k, rpl (swpl R i j) k = if k = i then rpl R j else if k = j then rpl R i else rpl R k := fun _ => rfl
  refine ⟨fun k hk => ?_, fun a b ha hb h => ?_, fun p hp => ?_, a4, a5⟩
  · rw [e]
    split
    · exact a1 j hj
    · split
      · exact a1 i hi
      · exact a1 k hk
  · have e2 : ∀ k, rpl (swpl R i j) k = rpl R (if k = i then j else if k = j then i else k) := fun k => by
      rw [e]
      by_cases x1 : k = i
      · rw [if_pos x1, if_pos x1]
      · rw [if_neg x1, if_neg x1]
        by_cases x2 : k = j
        · rw [if_pos x2, if_pos x2]
        · rw [if_neg x2, if_neg x2]
    have lt : ∀ k, k < tn T → (if k = i then j else if k = j then i else k) < tn T := fun k hk => by
      split
      · exact hj
      · split
        · exact hi
        · exact hk
    rw [e2, e2] at h
    have g := a2 _ _ (lt a ha) (lt b hb) h
    by_cases x1 : a = i
    · rw [if_pos x1] at g
      by_cases y1 : b = i
      · omega
      · rw [if_neg y1] at g
        by_cases y2 : b = j
        · rw [if_pos y2] at g; omega
        · rw [if_neg y2] at g; omega
    · rw [if_neg x1] at g
      by_cases x2 : a = j
      · rw [if_pos x2] at g
        by_cases y1 : b = i
        · rw [if_pos y1] at g; omega
        · rw [if_neg y1] at g
          by_cases y2 : b = j
          · omega
          · rw [if_neg y2] at g; omega
      · rw [if_neg x2] at g
        by_cases y1 : b = i
        · rw [if_pos y1] at g; omega
        · rw [if_neg y1] at g
          by_cases y2 : b = j
          · rw [if_pos y2] at g; omega
          · rw [if_neg y2] at g; omega
  · obtain ⟨k, hk, hkp⟩ := a3 p hp
    by_cases x1 : k = i
    · refine ⟨j, hj, ?_⟩
      rw [e, if_neg (fun q => hij q.symm), if_pos rfl, ← x1]; exact hkp
    · by_cases x2 : k = j
      · refine ⟨i, hi, ?_⟩
        rw [e, if_pos rfl, ← x2]; exact hkp
      · refine ⟨k, hk, ?_⟩
        rw [e, if_neg x1, if_neg x2]; exact hkp
theorem c_swap {h : wb_H} (I : Inv h B) (a b : Int32) : Same (fun h => q_X_swap sc h a b) (fun h => q_M_swap sc h a b) h B := by
  obtain ⟨T, R, v, q, s, C, D⟩ := I
  have n6 := C.1.1
  have S := C.2.2.2.2.2.2.2.1
  by_cases ha : hsP (tn T) a
  · obtain ⟨i, hi, rfl⟩ := ha
    by_cases hb : hsP (tn T) b
    · obtain ⟨j, hj, rfl⟩ := hb
      by_cases hij : i = j
      · refine nothing (a := nN 0) C D ?_ ?_
        · show q_X_swap sc h (nN i) (nN j) = _
          rw [q_X_swap_eq, X_isHouse_t C hi]
          simp (disch := omega) only [L_0, L_1, L_2, L_3, L_4, L_5, L_6, L_7, L_8, L_9, L_10, L_11, L_12, L_13, L_14, L_15, L_16, L_17, L_18, L_19, L_20, L_21, L_22, L_23, L_24, L_25, L_26, L_27, L_28, L_29, L_30, L_31, L_32, L_33, L_34, L_35, L_40, L_41, L_42, L_43, L_44, L_45, L_47, L_48, L_50, L_53, L_57, L_59, L_60, L_61, L_63, L_64, L_97, L_100, L_101, L_102, L_103, L_122, L_130, L_216, L_255, L_364, L_400, L_402, L_420, L_728, L_768, L_999, L_1000, L_1093, L_1872, L_2000, L_9999, L_12345, L_252645135, L_858993459, L_1103515245, L_1431655765, Lm_1, Lm_2, Lm_8, N_zero, N_cast, N_add, N_mul, N_sub, N_addM, N_lt_tp, N_lt_fp, N_le_tp, N_le_fp, N_eq_tp, N_eq_fp, MN_ltp, MN_lep, NM_ltp, NM_lep, NM_eqp, MN_eqp, MM_lt_tp, MM_lt_fp, MM_le_tp, MM_le_fp, MM_eq_tp, MM_eq_fp, N_cl, N_in_t, N_in_f, M_in, N_div, N_rem, N_nb0, N_nb1, cond_true, cond_false, Bool.not_true, Bool.not_false, Bool.and_true, Bool.true_and, Bool.and_false, Bool.false_and, decide_true, decide_false, Option.bind_some, Option.bind_none, X_isHouse_t C hj]
        · show q_M_swap sc h (nN i) (nN j) = _
          rw [q_M_swap_eq, M_isHouse_t C hi]
          simp (disch := omega) only [L_0, L_1, L_2, L_3, L_4, L_5, L_6, L_7, L_8, L_9, L_10, L_11, L_12, L_13, L_14, L_15, L_16, L_17, L_18, L_19, L_20, L_21, L_22, L_23, L_24, L_25, L_26, L_27, L_28, L_29, L_30, L_31, L_32, L_33, L_34, L_35, L_40, L_41, L_42, L_43, L_44, L_45, L_47, L_48, L_50, L_53, L_57, L_59, L_60, L_61, L_63, L_64, L_97, L_100, L_101, L_102, L_103, L_122, L_130, L_216, L_255, L_364, L_400, L_402, L_420, L_728, L_768, L_999, L_1000, L_1093, L_1872, L_2000, L_9999, L_12345, L_252645135, L_858993459, L_1103515245, L_1431655765, Lm_1, Lm_2, Lm_8, N_zero, N_cast, N_add, N_mul, N_sub, N_addM, N_lt_tp, N_lt_fp, N_le_tp, N_le_fp, N_eq_tp, N_eq_fp, MN_ltp, MN_lep, NM_ltp, NM_lep, NM_eqp, MN_eqp, MM_lt_tp, MM_lt_fp, MM_le_tp, MM_le_fp, MM_eq_tp, MM_eq_fp, N_cl, N_in_t, N_in_f, M_in, N_div, N_rem, N_nb0, N_nb1, cond_true, cond_false, Bool.not_true, Bool.not_false, Bool.and_true, Bool.true_and, Bool.and_false, Bool.false_and, decide_true, decide_false, Option.bind_some, Option.bind_none, M_isHouse_t C hj]
      · obtain ⟨nx, c, p1, p2, p3, p4, p5, p6⟩ := C.2.2.2.2.2.2.2.2.1
        have hR' := swpl_ok C.2.1 hi hj hij
        have hX : Ok (q_X_swap sc h (nN i) (nN j)) (fun r => r.1 = nN 1 ∧ Fr XD h r.2 ∧ XP h r.2 nx c ∧ r.2.1 20 0 15 = nN 0 ∧ r.2.1 20 0 14 = nM 1 ∧ (∀ l, l < 64 → r.2.1 62 0 l = nM 1) ∧ (∀ k, r.2.1 17 0 k = h.1 17 0 k) ∧ (∀ k, k ≠ i → k ≠ j → r.2.1 54 0 k = h.1 54 0 k) ∧ r.2.1 54 0 i = nN (rpl R j) ∧ r.2.1 54 0 j = nN (rpl R i)) := by
          rw [q_X_swap_eq, X_isHouse_t C hi]
          simp (disch := omega) only [L_0, L_1, L_2, L_3, L_4, L_5, L_6, L_7, L_8, L_9, L_10, L_11, L_12, L_13, L_14, L_15, L_16, L_17, L_18, L_19, L_20, L_21, L_22, L_23, L_24, L_25, L_26, L_27, L_28, L_29, L_30, L_31, L_32, L_33, L_34, L_35, L_40, L_41, L_42, L_43, L_44, L_45, L_47, L_48, L_50, L_53, L_57, L_59, L_60, L_61, L_63, L_64, L_97, L_100, L_101, L_102, L_103, L_122, L_130, L_216, L_255, L_364, L_400, L_402, L_420, L_728, L_768, L_999, L_1000, L_1093, L_1872, L_2000, L_9999, L_12345, L_252645135, L_858993459, L_1103515245, L_1431655765, Lm_1, Lm_2, Lm_8, N_zero, N_cast, N_add, N_mul, N_sub, N_addM, N_lt_tp, N_lt_fp, N_le_tp, N_le_fp, N_eq_tp, N_eq_fp, MN_ltp, MN_lep, NM_ltp, NM_lep, NM_eqp, MN_eqp, MM_lt_tp, MM_lt_fp, MM_le_tp, MM_le_fp, MM_eq_tp, MM_eq_fp, N_cl, N_in_t, N_in_f, M_in, N_div, N_rem, N_nb0, N_nb1, cond_true, cond_false, Bool.not_true, Bool.not_false, Bool.and_true, Bool.true_and, Bool.and_false, Bool.false_and, decide_true, decide_false, Option.bind_some, Option.bind_none, X_isHouse_t C hj]
          refine Ok_bind (X_remember p1 p2 p3 p4 S.2.2.2.2.2.2.1) ?_
          rintro h1 ⟨F1, P1, k1, k2⟩
          have ei : h1.1 54 0 (6 * 0 + i) = nN (rpl R i) := by rw [Nat.mul_zero, Nat.zero_add]; exact (k2 i).trans (S.1.1 i hi)
          have ej : h1.1 54 0 (6 * 0 + j) = nN (rpl R j) := by rw [Nat.mul_zero, Nat.zero_add]; exact (k2 j).trans (S.1.1 j hj)
          rw [X_stOf (by decide) (by decide) (by omega), ei]
          simp only [Option.bind_some]
          rw [X_stOf (by decide) (by decide) (by omega), ej]
          simp only [Option.bind_some]
          rw [X_stSet (by decide) (by omega)]
          simp only [Option.bind_some]
          rw [X_stSet (by decide) (by omega)]
          simp only [Option.bind_some]
          rw [Nat.mul_zero, Nat.zero_add, Nat.zero_add]
          refine Ok_bind (X_tail F1 P1 (Fr_trans (Fr_iu rfl) (Fr_iu rfl)) (fun o ho k => ⟨by rw [iu_o ho, iu_o ho], by rw [iu_o ho, iu_o ho]⟩)) ?_
          rintro h3 ⟨F3, P3, w1, w2, w3, w4, w5⟩
          refine Ok_some ⟨rfl, F3, P3, w1, w2, w3, fun k => ?_, fun k a b => ?_, ?_, ?_⟩
          · rw [w4, iu_nt (by decide), iu_nt (by decide)]; exact k1 k
          · rw [w5, iu_ne b, iu_ne a]; exact k2 k
          · rw [w5, iu_ne hij, iu_at]
          · rw [w5, iu_at]
        obtain ⟨⟨x, h2⟩, hx, x1, F2, xp, w1, w2, w3, y1, y2, y3, y4⟩ := hX
        simp only at x1 F2 xp w1 w2 w3 y1 y2 y3 y4
        subst x1
        refine done (sc := sc) C hR' p1 p2 p5 p6 hx F2 xp w1 w2 w3 fun K => ?_
        obtain ⟨Ma, b95, ish, cps⟩ := M_side (sc := sc) C F2
        have C54 : h2.1 21 0 54 = nN c := (Fr_i F2 (by rfl)).trans p5
        show Ok (q_M_swap sc h2 (nN i) (nN j)) _
        rw [q_M_swap_eq, ish i hi]
        simp (disch := omega) only [L_0, L_1, L_2, L_3, L_4, L_5, L_6, L_7, L_8, L_9, L_10, L_11, L_12, L_13, L_14, L_15, L_16, L_17, L_18, L_19, L_20, L_21, L_22, L_23, L_24, L_25, L_26, L_27, L_28, L_29, L_30, L_31, L_32, L_33, L_34, L_35, L_40, L_41, L_42, L_43, L_44, L_45, L_47, L_48, L_50, L_53, L_57, L_59, L_60, L_61, L_63, L_64, L_97, L_100, L_101, L_102, L_103, L_122, L_130, L_216, L_255, L_364, L_400, L_402, L_420, L_728, L_768, L_999, L_1000, L_1093, L_1872, L_2000, L_9999, L_12345, L_252645135, L_858993459, L_1103515245, L_1431655765, Lm_1, Lm_2, Lm_8, N_zero, N_cast, N_add, N_mul, N_sub, N_addM, N_lt_tp, N_lt_fp, N_le_tp, N_le_fp, N_eq_tp, N_eq_fp, MN_ltp, MN_lep, NM_ltp, NM_lep, NM_eqp, MN_eqp, MM_lt_tp, MM_lt_fp, MM_le_tp, MM_le_fp, MM_eq_tp, MM_eq_fp, N_cl, N_in_t, N_in_f, M_in, N_div, N_rem, N_nb0, N_nb1, cond_true, cond_false, Bool.not_true, Bool.not_false, Bool.and_true, Bool.true_and, Bool.and_false, Bool.false_and, decide_true, decide_false, Option.bind_some, Option.bind_none, ish j hj]
        refine Ok_bind cps ?_
        rintro h3 ⟨F3, k3⟩
        have r3 := S.2.1.1
        have r4 := S.2.1.2.1
        have r5 := S.2.1.2.2
        simp only [Nat.zero_add] at r3 r4 r5
        have ei : h3.1 96 0 i = nN (rpl R i) := (k3 i (by omega)).trans (r3 i hi)
        have ej : h3.1 96 0 j = nN (rpl R j) := (k3 j (by omega)).trans (r3 j hj)
        rw [q_M_swaps_eq]
        simp (disch := omega) only [L_0, L_1, L_2, L_3, L_4, L_5, L_6, L_7, L_8, L_9, L_10, L_11, L_12, L_13, L_14, L_15, L_16, L_17, L_18, L_19, L_20, L_21, L_22, L_23, L_24, L_25, L_26, L_27, L_28, L_29, L_30, L_31, L_32, L_33, L_34, L_35, L_40, L_41, L_42, L_43, L_44, L_45, L_47, L_48, L_50, L_53, L_57, L_59, L_60, L_61, L_63, L_64, L_97, L_100, L_101, L_102, L_103, L_122, L_130, L_216, L_255, L_364, L_400, L_402, L_420, L_728, L_768, L_999, L_1000, L_1093, L_1872, L_2000, L_9999, L_12345, L_252645135, L_858993459, L_1103515245, L_1431655765, Lm_1, Lm_2, Lm_8, N_zero, N_cast, N_add, N_mul, N_sub, N_addM, N_lt_tp, N_lt_fp, N_le_tp, N_le_fp, N_eq_tp, N_eq_fp, MN_ltp, MN_lep, NM_ltp, NM_lep, NM_eqp, MN_eqp, MM_lt_tp, MM_lt_fp, MM_le_tp, MM_le_fp, MM_eq_tp, MM_eq_fp, N_cl, N_in_t, N_in_f, M_in, N_div, N_rem, N_nb0, N_nb1, cond_true, cond_false, Bool.not_true, Bool.not_false, Bool.and_true, Bool.true_and, Bool.and_false, Bool.false_and, decide_true, decide_false, Option.bind_some, Option.bind_none, ei, ej]
        have F4 : Fr [96, 1049, 1050] h2 (wb_iu (wb_iu h3 96 0 i (nN (rpl R j))) 96 0 j (nN (rpl R i))) := Fr_trans F3 (Fr_trans (Fr_iu rfl) (Fr_iu rfl))
        have z : ∀ k, k ≠ i → k ≠ j → k < 48 → (wb_iu (wb_iu h3 96 0 i (nN (rpl R j))) 96 0 j (nN (rpl R i))).1 96 0 k = h.1 95 0 k := fun k a b c => by rw [iu_ne b, iu_ne a]; exact k3 k c
        refine K _ F4 (SR_upd n6 S (fun k hk _ a b => (Fr_i F4 (by rfl)).trans (y1 k)) ((Fr_i F4 (by rfl)).trans ((y1 2).trans S.1.2.2)) ((z 12 (by omega) (by omega) (by decide)).trans r5) ?_ (fun k hk => ?_) (fun k hk => ?_) (fun k hk => ?_) (fun k hk => (z _ (by omega) (by omega) (by omega)).trans (r4 k hk)) (fun k a b => (Fr_i F4 (by rfl)).trans (y2 k (by omega) (by omega))) (fun k a b c => z k (by omega) (by omega) c)) (keepsK p2 ((Fr_i F4 (by rfl)).trans C54))
        · rw [Fr_i F4 (t := 17) (by rfl), y1, z 14 (by omega) (by omega) (by decide)]; exact S.2.2.2.2.1
        · rw [Fr_i F4 (t := 54) (by rfl)]
          show _ = nN (if k = i then rpl R j else if k = j then rpl R i else rpl R k)
          by_cases t1 : k = i
          · rw [if_pos t1, t1]; exact y3
          · by_cases t2 : k = j
            · rw [if_neg t1, if_pos t2, t2]; exact y4
            · rw [if_neg t1, if_neg t2]; exact (y2 k t1 t2).trans (S.1.1 k hk)
        · show _ = nN (if k = i then rpl R j else if k = j then rpl R i else rpl R k)
          by_cases t1 : k = i
          · rw [if_pos t1, t1, iu_ne hij, iu_at]
          · by_cases t2 : k = j
            · rw [if_neg t1, if_pos t2, t2, iu_at]
            · rw [if_neg t1, if_neg t2]; exact (z k t1 t2 (by omega)).trans (r3 k hk)
        · rw [Fr_i F4 (t := 54) (by rfl)]; exact (y2 _ (by omega) (by omega)).trans (S.1.2.1 k hk)
    · refine nothing (a := nN 0) C D ?_ ?_
      · show q_X_swap sc h (nN i) b = _
        rw [q_X_swap_eq, X_isHouse_t C hi]
        simp (disch := omega) only [L_0, L_1, L_2, L_3, L_4, L_5, L_6, L_7, L_8, L_9, L_10, L_11, L_12, L_13, L_14, L_15, L_16, L_17, L_18, L_19, L_20, L_21, L_22, L_23, L_24, L_25, L_26, L_27, L_28, L_29, L_30, L_31, L_32, L_33, L_34, L_35, L_40, L_41, L_42, L_43, L_44, L_45, L_47, L_48, L_50, L_53, L_57, L_59, L_60, L_61, L_63, L_64, L_97, L_100, L_101, L_102, L_103, L_122, L_130, L_216, L_255, L_364, L_400, L_402, L_420, L_728, L_768, L_999, L_1000, L_1093, L_1872, L_2000, L_9999, L_12345, L_252645135, L_858993459, L_1103515245, L_1431655765, Lm_1, Lm_2, Lm_8, N_zero, N_cast, N_add, N_mul, N_sub, N_addM, N_lt_tp, N_lt_fp, N_le_tp, N_le_fp, N_eq_tp, N_eq_fp, MN_ltp, MN_lep, NM_ltp, NM_lep, NM_eqp, MN_eqp, MM_lt_tp, MM_lt_fp, MM_le_tp, MM_le_fp, MM_eq_tp, MM_eq_fp, N_cl, N_in_t, N_in_f, M_in, N_div, N_rem, N_nb0, N_nb1, cond_true, cond_false, Bool.not_true, Bool.not_false, Bool.and_true, Bool.true_and, Bool.and_false, Bool.false_and, decide_true, decide_false, Option.bind_some, Option.bind_none, X_isHouse_f C hb]
      · show q_M_swap sc h (nN i) b = _
        rw [q_M_swap_eq, M_isHouse_t C hi]
        simp (disch := omega) only [L_0, L_1, L_2, L_3, L_4, L_5, L_6, L_7, L_8, L_9, L_10, L_11, L_12, L_13, L_14, L_15, L_16, L_17, L_18, L_19, L_20, L_21, L_22, L_23, L_24, L_25, L_26, L_27, L_28, L_29, L_30, L_31, L_32, L_33, L_34, L_35, L_40, L_41, L_42, L_43, L_44, L_45, L_47, L_48, L_50, L_53, L_57, L_59, L_60, L_61, L_63, L_64, L_97, L_100, L_101, L_102, L_103, L_122, L_130, L_216, L_255, L_364, L_400, L_402, L_420, L_728, L_768, L_999, L_1000, L_1093, L_1872, L_2000, L_9999, L_12345, L_252645135, L_858993459, L_1103515245, L_1431655765, Lm_1, Lm_2, Lm_8, N_zero, N_cast, N_add, N_mul, N_sub, N_addM, N_lt_tp, N_lt_fp, N_le_tp, N_le_fp, N_eq_tp, N_eq_fp, MN_ltp, MN_lep, NM_ltp, NM_lep, NM_eqp, MN_eqp, MM_lt_tp, MM_lt_fp, MM_le_tp, MM_le_fp, MM_eq_tp, MM_eq_fp, N_cl, N_in_t, N_in_f, M_in, N_div, N_rem, N_nb0, N_nb1, cond_true, cond_false, Bool.not_true, Bool.not_false, Bool.and_true, Bool.true_and, Bool.and_false, Bool.false_and, decide_true, decide_false, Option.bind_some, Option.bind_none, M_isHouse_f C hb]
  · refine nothing (a := nN 0) C D ?_ ?_
    · show q_X_swap sc h a b = _
      rw [q_X_swap_eq, X_isHouse_f C ha]
      simp (disch := omega) only [L_0, L_1, L_2, L_3, L_4, L_5, L_6, L_7, L_8, L_9, L_10, L_11, L_12, L_13, L_14, L_15, L_16, L_17, L_18, L_19, L_20, L_21, L_22, L_23, L_24, L_25, L_26, L_27, L_28, L_29, L_30, L_31, L_32, L_33, L_34, L_35, L_40, L_41, L_42, L_43, L_44, L_45, L_47, L_48, L_50, L_53, L_57, L_59, L_60, L_61, L_63, L_64, L_97, L_100, L_101, L_102, L_103, L_122, L_130, L_216, L_255, L_364, L_400, L_402, L_420, L_728, L_768, L_999, L_1000, L_1093, L_1872, L_2000, L_9999, L_12345, L_252645135, L_858993459, L_1103515245, L_1431655765, Lm_1, Lm_2, Lm_8, N_zero, N_cast, N_add, N_mul, N_sub, N_addM, N_lt_tp, N_lt_fp, N_le_tp, N_le_fp, N_eq_tp, N_eq_fp, MN_ltp, MN_lep, NM_ltp, NM_lep, NM_eqp, MN_eqp, MM_lt_tp, MM_lt_fp, MM_le_tp, MM_le_fp, MM_eq_tp, MM_eq_fp, N_cl, N_in_t, N_in_f, M_in, N_div, N_rem, N_nb0, N_nb1, cond_true, cond_false, Bool.not_true, Bool.not_false, Bool.and_true, Bool.true_and, Bool.and_false, Bool.false_and, decide_true, decide_false, Option.bind_some, Option.bind_none]
    · show q_M_swap sc h a b = _
      rw [q_M_swap_eq, M_isHouse_f C ha]
      simp (disch := omega) only [L_0, L_1, L_2, L_3, L_4, L_5, L_6, L_7, L_8, L_9, L_10, L_11, L_12, L_13, L_14, L_15, L_16, L_17, L_18, L_19, L_20, L_21, L_22, L_23, L_24, L_25, L_26, L_27, L_28, L_29, L_30, L_31, L_32, L_33, L_34, L_35, L_40, L_41, L_42, L_43, L_44, L_45, L_47, L_48, L_50, L_53, L_57, L_59, L_60, L_61, L_63, L_64, L_97, L_100, L_101, L_102, L_103, L_122, L_130, L_216, L_255, L_364, L_400, L_402, L_420, L_728, L_768, L_999, L_1000, L_1093, L_1872, L_2000, L_9999, L_12345, L_252645135, L_858993459, L_1103515245, L_1431655765, Lm_1, Lm_2, Lm_8, N_zero, N_cast, N_add, N_mul, N_sub, N_addM, N_lt_tp, N_lt_fp, N_le_tp, N_le_fp, N_eq_tp, N_eq_fp, MN_ltp, MN_lep, NM_ltp, NM_lep, NM_eqp, MN_eqp, MM_lt_tp, MM_lt_fp, MM_le_tp, MM_le_fp, MM_eq_tp, MM_eq_fp, N_cl, N_in_t, N_in_f, M_in, N_div, N_rem, N_nb0, N_nb1, cond_true, cond_false, Bool.not_true, Bool.not_false, Bool.and_true, Bool.true_and, Bool.and_false, Bool.false_and, decide_true, decide_false, Option.bind_some, Option.bind_none]
def sthb (R : wR) (i e : Nat) : wR := (rpl R, ((fun k => if k = i then e else rov R k), rlf R))
theorem ovI_inj {a b : Nat} (ha : a ≤ 9) (hb : b ≤ 9) (h : ovI a = ovI b) : a = b := by
  unfold ovI at h
  by_cases x : a = 9 <;> by_cases y : b = 9
  · omega
  · rw [if_pos x, if_neg y] at h
    exact absurd h (by have := MN_eq (a := b) (b := 1) (by omega) (by decide) (by decide); simpa using this)
  · rw [if_neg x, if_pos y] at h
    exact absurd h (by have := NM_eq (a := a) (b := 1) (by omega) (by decide) (by decide); simpa using this)
  · rw [if_neg x, if_neg y] at h
    exact N_inj (by omega) (by omega) h
theorem c_habit {h : wb_H} (I : Inv h B) (a b : Int32) : Same (fun h => q_X_habit sc h a b) (fun h => q_M_habit sc h a b) h B := by
  obtain ⟨T, R, v, q, s, C, D⟩ := I
  have n6 := C.1.1
  have S := C.2.2.2.2.2.2.2.1
  by_cases ha : hsP (tn T) a
  · obtain ⟨i, hi, rfl⟩ := ha
    by_cases hb : ∃ e, ((e ≤ 5 ∧ e ≠ 3) ∨ e = 9) ∧ b = ovI e
    · obtain ⟨e, he, rfl⟩ := hb
      have ov := C.2.1.2.2.2.1 i hi
      have xcan : ∀ h : wb_H, q_X_canBeSet sc h (ovI e) = some (nN 1, h) := by
        intro h
        rw [q_X_canBeSet_eq]
        unfold ovI
        by_cases z : e = 9
        · rw [if_pos z]; simp (disch := omega) only [L_0, L_1, L_2, L_3, L_4, L_5, L_6, L_7, L_8, L_9, L_10, L_11, L_12, L_13, L_14, L_15, L_16, L_17, L_18, L_19, L_20, L_21, L_22, L_23, L_24, L_25, L_26, L_27, L_28, L_29, L_30, L_31, L_32, L_33, L_34, L_35, L_40, L_41, L_42, L_43, L_44, L_45, L_47, L_48, L_50, L_53, L_57, L_59, L_60, L_61, L_63, L_64, L_97, L_100, L_101, L_102, L_103, L_122, L_130, L_216, L_255, L_364, L_400, L_402, L_420, L_728, L_768, L_999, L_1000, L_1093, L_1872, L_2000, L_9999, L_12345, L_252645135, L_858993459, L_1103515245, L_1431655765, Lm_1, Lm_2, Lm_8, N_zero, N_cast, N_add, N_mul, N_sub, N_addM, N_lt_tp, N_lt_fp, N_le_tp, N_le_fp, N_eq_tp, N_eq_fp, MN_ltp, MN_lep, NM_ltp, NM_lep, NM_eqp, MN_eqp, MM_lt_tp, MM_lt_fp, MM_le_tp, MM_le_fp, MM_eq_tp, MM_eq_fp, N_cl, N_in_t, N_in_f, M_in, N_div, N_rem, N_nb0, N_nb1, cond_true, cond_false, Bool.not_true, Bool.not_false, Bool.and_true, Bool.true_and, Bool.and_false, Bool.false_and, decide_true, decide_false, Option.bind_some, Option.bind_none]
        · rw [if_neg z]; simp (disch := omega) only [L_0, L_1, L_2, L_3, L_4, L_5, L_6, L_7, L_8, L_9, L_10, L_11, L_12, L_13, L_14, L_15, L_16, L_17, L_18, L_19, L_20, L_21, L_22, L_23, L_24, L_25, L_26, L_27, L_28, L_29, L_30, L_31, L_32, L_33, L_34, L_35, L_40, L_41, L_42, L_43, L_44, L_45, L_47, L_48, L_50, L_53, L_57, L_59, L_60, L_61, L_63, L_64, L_97, L_100, L_101, L_102, L_103, L_122, L_130, L_216, L_255, L_364, L_400, L_402, L_420, L_728, L_768, L_999, L_1000, L_1093, L_1872, L_2000, L_9999, L_12345, L_252645135, L_858993459, L_1103515245, L_1431655765, Lm_1, Lm_2, Lm_8, N_zero, N_cast, N_add, N_mul, N_sub, N_addM, N_lt_tp, N_lt_fp, N_le_tp, N_le_fp, N_eq_tp, N_eq_fp, MN_ltp, MN_lep, NM_ltp, NM_lep, NM_eqp, MN_eqp, MM_lt_tp, MM_lt_fp, MM_le_tp, MM_le_fp, MM_eq_tp, MM_eq_fp, N_cl, N_in_t, N_in_f, M_in, N_div, N_rem, N_nb0, N_nb1, cond_true, cond_false, Bool.not_true, Bool.not_false, Bool.and_true, Bool.true_and, Bool.and_false, Bool.false_and, decide_true, decide_false, Option.bind_some, Option.bind_none]
      have mcan : ∀ h : wb_H, q_M_in sc h (ovI e) (nM 1) (nN 5) = some (nN 1, h) := by
        intro h
        rw [q_M_in_eq]
        unfold ovI
        by_cases z : e = 9
        · rw [if_pos z]; simp (disch := omega) only [L_0, L_1, L_2, L_3, L_4, L_5, L_6, L_7, L_8, L_9, L_10, L_11, L_12, L_13, L_14, L_15, L_16, L_17, L_18, L_19, L_20, L_21, L_22, L_23, L_24, L_25, L_26, L_27, L_28, L_29, L_30, L_31, L_32, L_33, L_34, L_35, L_40, L_41, L_42, L_43, L_44, L_45, L_47, L_48, L_50, L_53, L_57, L_59, L_60, L_61, L_63, L_64, L_97, L_100, L_101, L_102, L_103, L_122, L_130, L_216, L_255, L_364, L_400, L_402, L_420, L_728, L_768, L_999, L_1000, L_1093, L_1872, L_2000, L_9999, L_12345, L_252645135, L_858993459, L_1103515245, L_1431655765, Lm_1, Lm_2, Lm_8, N_zero, N_cast, N_add, N_mul, N_sub, N_addM, N_lt_tp, N_lt_fp, N_le_tp, N_le_fp, N_eq_tp, N_eq_fp, MN_ltp, MN_lep, NM_ltp, NM_lep, NM_eqp, MN_eqp, MM_lt_tp, MM_lt_fp, MM_le_tp, MM_le_fp, MM_eq_tp, MM_eq_fp, N_cl, N_in_t, N_in_f, M_in, N_div, N_rem, N_nb0, N_nb1, cond_true, cond_false, Bool.not_true, Bool.not_false, Bool.and_true, Bool.true_and, Bool.and_false, Bool.false_and, decide_true, decide_false, Option.bind_some, Option.bind_none]
        · rw [if_neg z]; simp (disch := omega) only [L_0, L_1, L_2, L_3, L_4, L_5, L_6, L_7, L_8, L_9, L_10, L_11, L_12, L_13, L_14, L_15, L_16, L_17, L_18, L_19, L_20, L_21, L_22, L_23, L_24, L_25, L_26, L_27, L_28, L_29, L_30, L_31, L_32, L_33, L_34, L_35, L_40, L_41, L_42, L_43, L_44, L_45, L_47, L_48, L_50, L_53, L_57, L_59, L_60, L_61, L_63, L_64, L_97, L_100, L_101, L_102, L_103, L_122, L_130, L_216, L_255, L_364, L_400, L_402, L_420, L_728, L_768, L_999, L_1000, L_1093, L_1872, L_2000, L_9999, L_12345, L_252645135, L_858993459, L_1103515245, L_1431655765, Lm_1, Lm_2, Lm_8, N_zero, N_cast, N_add, N_mul, N_sub, N_addM, N_lt_tp, N_lt_fp, N_le_tp, N_le_fp, N_eq_tp, N_eq_fp, MN_ltp, MN_lep, NM_ltp, NM_lep, NM_eqp, MN_eqp, MM_lt_tp, MM_lt_fp, MM_le_tp, MM_le_fp, MM_eq_tp, MM_eq_fp, N_cl, N_in_t, N_in_f, M_in, N_div, N_rem, N_nb0, N_nb1, cond_true, cond_false, Bool.not_true, Bool.not_false, Bool.and_true, Bool.true_and, Bool.and_false, Bool.false_and, decide_true, decide_false, Option.bind_some, Option.bind_none]
      have m3 : (ovI e = nN 3) = False := by
        unfold ovI
        by_cases z : e = 9
        · rw [if_pos z]; exact MN_eqp (by decide) (by decide) (by decide)
        · rw [if_neg z]; exact N_eq_fp (by omega) (by omega) (by omega)
      have st1 : h.1 54 0 (6 * 1 + i) = ovI (rov R i) := S.1.2.1 i hi
      have r4 := S.2.1.2.1
      have r3 := S.2.1.1
      have r5 := S.2.1.2.2
      simp only [Nat.zero_add] at r3 r4 r5
      by_cases z : rov R i = e
      · refine nothing (a := nN 0) C D ?_ ?_
        · show q_X_habit sc h (nN i) (ovI e) = _
          rw [q_X_habit_eq, X_isHouse_t C hi]
          simp (disch := omega) only [L_0, L_1, L_2, L_3, L_4, L_5, L_6, L_7, L_8, L_9, L_10, L_11, L_12, L_13, L_14, L_15, L_16, L_17, L_18, L_19, L_20, L_21, L_22, L_23, L_24, L_25, L_26, L_27, L_28, L_29, L_30, L_31, L_32, L_33, L_34, L_35, L_40, L_41, L_42, L_43, L_44, L_45, L_47, L_48, L_50, L_53, L_57, L_59, L_60, L_61, L_63, L_64, L_97, L_100, L_101, L_102, L_103, L_122, L_130, L_216, L_255, L_364, L_400, L_402, L_420, L_728, L_768, L_999, L_1000, L_1093, L_1872, L_2000, L_9999, L_12345, L_252645135, L_858993459, L_1103515245, L_1431655765, Lm_1, Lm_2, Lm_8, N_zero, N_cast, N_add, N_mul, N_sub, N_addM, N_lt_tp, N_lt_fp, N_le_tp, N_le_fp, N_eq_tp, N_eq_fp, MN_ltp, MN_lep, NM_ltp, NM_lep, NM_eqp, MN_eqp, MM_lt_tp, MM_lt_fp, MM_le_tp, MM_le_fp, MM_eq_tp, MM_eq_fp, N_cl, N_in_t, N_in_f, M_in, N_div, N_rem, N_nb0, N_nb1, cond_true, cond_false, Bool.not_true, Bool.not_false, Bool.and_true, Bool.true_and, Bool.and_false, Bool.false_and, decide_true, decide_false, Option.bind_some, Option.bind_none, xcan]
          rw [X_stOf (by decide) (by decide) (by omega), st1, z]
          simp (disch := omega) only [L_0, L_1, L_2, L_3, L_4, L_5, L_6, L_7, L_8, L_9, L_10, L_11, L_12, L_13, L_14, L_15, L_16, L_17, L_18, L_19, L_20, L_21, L_22, L_23, L_24, L_25, L_26, L_27, L_28, L_29, L_30, L_31, L_32, L_33, L_34, L_35, L_40, L_41, L_42, L_43, L_44, L_45, L_47, L_48, L_50, L_53, L_57, L_59, L_60, L_61, L_63, L_64, L_97, L_100, L_101, L_102, L_103, L_122, L_130, L_216, L_255, L_364, L_400, L_402, L_420, L_728, L_768, L_999, L_1000, L_1093, L_1872, L_2000, L_9999, L_12345, L_252645135, L_858993459, L_1103515245, L_1431655765, Lm_1, Lm_2, Lm_8, N_zero, N_cast, N_add, N_mul, N_sub, N_addM, N_lt_tp, N_lt_fp, N_le_tp, N_le_fp, N_eq_tp, N_eq_fp, MN_ltp, MN_lep, NM_ltp, NM_lep, NM_eqp, MN_eqp, MM_lt_tp, MM_lt_fp, MM_le_tp, MM_le_fp, MM_eq_tp, MM_eq_fp, N_cl, N_in_t, N_in_f, M_in, N_div, N_rem, N_nb0, N_nb1, cond_true, cond_false, Bool.not_true, Bool.not_false, Bool.and_true, Bool.true_and, Bool.and_false, Bool.false_and, decide_true, decide_false, Option.bind_some, Option.bind_none]
        · show q_M_habit sc h (nN i) (ovI e) = _
          rw [q_M_habit_eq, M_isHouse_t C hi]
          simp (disch := omega) only [L_0, L_1, L_2, L_3, L_4, L_5, L_6, L_7, L_8, L_9, L_10, L_11, L_12, L_13, L_14, L_15, L_16, L_17, L_18, L_19, L_20, L_21, L_22, L_23, L_24, L_25, L_26, L_27, L_28, L_29, L_30, L_31, L_32, L_33, L_34, L_35, L_40, L_41, L_42, L_43, L_44, L_45, L_47, L_48, L_50, L_53, L_57, L_59, L_60, L_61, L_63, L_64, L_97, L_100, L_101, L_102, L_103, L_122, L_130, L_216, L_255, L_364, L_400, L_402, L_420, L_728, L_768, L_999, L_1000, L_1093, L_1872, L_2000, L_9999, L_12345, L_252645135, L_858993459, L_1103515245, L_1431655765, Lm_1, Lm_2, Lm_8, N_zero, N_cast, N_add, N_mul, N_sub, N_addM, N_lt_tp, N_lt_fp, N_le_tp, N_le_fp, N_eq_tp, N_eq_fp, MN_ltp, MN_lep, NM_ltp, NM_lep, NM_eqp, MN_eqp, MM_lt_tp, MM_lt_fp, MM_le_tp, MM_le_fp, MM_eq_tp, MM_eq_fp, N_cl, N_in_t, N_in_f, M_in, N_div, N_rem, N_nb0, N_nb1, cond_true, cond_false, Bool.not_true, Bool.not_false, Bool.and_true, Bool.true_and, Bool.and_false, Bool.false_and, decide_true, decide_false, Option.bind_some, Option.bind_none, mcan, m3, r4 i hi, z]
      · have zz : ¬ ovI (rov R i) = ovI e := fun t => z (ovI_inj (by omega) (by omega) t)
        obtain ⟨nx, c, p1, p2, p3, p4, p5, p6⟩ := C.2.2.2.2.2.2.2.2.1
        have hR' : R_ok T (sthb R i e) := by
          refine ⟨C.2.1.1, C.2.1.2.1, C.2.1.2.2.1, fun k hk => ?_, C.2.1.2.2.2.2⟩
          show ((if k = i then e else rov R k) ≤ 5 ∧ (if k = i then e else rov R k) ≠ 3) ∨ (if k = i then e else rov R k) = 9
          by_cases t : k = i
          · simp only [t, if_true]; exact he
          · simp only [t, if_false]; exact C.2.1.2.2.2.1 k hk
        have hX : Ok (q_X_habit sc h (nN i) (ovI e)) (fun r => r.1 = nN 1 ∧ Fr XD h r.2 ∧ XP h r.2 nx c ∧ r.2.1 20 0 15 = nN 0 ∧ r.2.1 20 0 14 = nM 1 ∧ (∀ l, l < 64 → r.2.1 62 0 l = nM 1) ∧ (∀ k, r.2.1 17 0 k = h.1 17 0 k) ∧ (∀ k, k ≠ 6 + i → r.2.1 54 0 k = h.1 54 0 k) ∧ r.2.1 54 0 (6 + i) = ovI e) := by
          rw [q_X_habit_eq, X_isHouse_t C hi]
          simp (disch := omega) only [L_0, L_1, L_2, L_3, L_4, L_5, L_6, L_7, L_8, L_9, L_10, L_11, L_12, L_13, L_14, L_15, L_16, L_17, L_18, L_19, L_20, L_21, L_22, L_23, L_24, L_25, L_26, L_27, L_28, L_29, L_30, L_31, L_32, L_33, L_34, L_35, L_40, L_41, L_42, L_43, L_44, L_45, L_47, L_48, L_50, L_53, L_57, L_59, L_60, L_61, L_63, L_64, L_97, L_100, L_101, L_102, L_103, L_122, L_130, L_216, L_255, L_364, L_400, L_402, L_420, L_728, L_768, L_999, L_1000, L_1093, L_1872, L_2000, L_9999, L_12345, L_252645135, L_858993459, L_1103515245, L_1431655765, Lm_1, Lm_2, Lm_8, N_zero, N_cast, N_add, N_mul, N_sub, N_addM, N_lt_tp, N_lt_fp, N_le_tp, N_le_fp, N_eq_tp, N_eq_fp, MN_ltp, MN_lep, NM_ltp, NM_lep, NM_eqp, MN_eqp, MM_lt_tp, MM_lt_fp, MM_le_tp, MM_le_fp, MM_eq_tp, MM_eq_fp, N_cl, N_in_t, N_in_f, M_in, N_div, N_rem, N_nb0, N_nb1, cond_true, cond_false, Bool.not_true, Bool.not_false, Bool.and_true, Bool.true_and, Bool.and_false, Bool.false_and, decide_true, decide_false, Option.bind_some, Option.bind_none, xcan]
          rw [X_stOf (by decide) (by decide) (by omega), st1]
          simp only [Option.bind_some, zz, decide_false, Bool.not_false, cond_true]
          refine Ok_bind (X_remember p1 p2 p3 p4 S.2.2.2.2.2.2.1) ?_
          rintro h1 ⟨F1, P1, k1, k2⟩
          rw [X_stSet (by decide) (by omega)]
          simp only [Option.bind_some]
          rw [Nat.mul_one]
          refine Ok_bind (X_tail F1 P1 (Fr_iu rfl) (fun o ho k => ⟨iu_o ho, iu_o ho⟩)) ?_
          rintro h3 ⟨F3, P3, w1, w2, w3, w4, w5⟩
          refine Ok_some ⟨rfl, F3, P3, w1, w2, w3, fun k => ?_, fun k a => ?_, ?_⟩
          · rw [w4, iu_nt (by decide)]; exact k1 k
          · rw [w5, iu_ne a]; exact k2 k
          · rw [w5, iu_at]
        obtain ⟨⟨x, h2⟩, hx, x1, F2, xp, w1, w2, w3, y1, y2, y3⟩ := hX
        simp only at x1 F2 xp w1 w2 w3 y1 y2 y3
        subst x1
        refine done (sc := sc) C hR' p1 p2 p5 p6 hx F2 xp w1 w2 w3 fun K => ?_
        obtain ⟨Ma, b95, ish, cps⟩ := M_side (sc := sc) C F2
        have C54 : h2.1 21 0 54 = nN c := (Fr_i F2 (by rfl)).trans p5
        have now6 : h2.1 95 0 (6 + i) = ovI (rov R i) := (b95 _).trans (r4 i hi)
        show Ok (q_M_habit sc h2 (nN i) (ovI e)) _
        rw [q_M_habit_eq, ish i hi]
        simp (disch := omega) only [L_0, L_1, L_2, L_3, L_4, L_5, L_6, L_7, L_8, L_9, L_10, L_11, L_12, L_13, L_14, L_15, L_16, L_17, L_18, L_19, L_20, L_21, L_22, L_23, L_24, L_25, L_26, L_27, L_28, L_29, L_30, L_31, L_32, L_33, L_34, L_35, L_40, L_41, L_42, L_43, L_44, L_45, L_47, L_48, L_50, L_53, L_57, L_59, L_60, L_61, L_63, L_64, L_97, L_100, L_101, L_102, L_103, L_122, L_130, L_216, L_255, L_364, L_400, L_402, L_420, L_728, L_768, L_999, L_1000, L_1093, L_1872, L_2000, L_9999, L_12345, L_252645135, L_858993459, L_1103515245, L_1431655765, Lm_1, Lm_2, Lm_8, N_zero, N_cast, N_add, N_mul, N_sub, N_addM, N_lt_tp, N_lt_fp, N_le_tp, N_le_fp, N_eq_tp, N_eq_fp, MN_ltp, MN_lep, NM_ltp, NM_lep, NM_eqp, MN_eqp, MM_lt_tp, MM_lt_fp, MM_le_tp, MM_le_fp, MM_eq_tp, MM_eq_fp, N_cl, N_in_t, N_in_f, M_in, N_div, N_rem, N_nb0, N_nb1, cond_true, cond_false, Bool.not_true, Bool.not_false, Bool.and_true, Bool.true_and, Bool.and_false, Bool.false_and, decide_true, decide_false, Option.bind_some, Option.bind_none, mcan, m3, now6, zz]
        refine Ok_bind cps ?_
        rintro h3 ⟨F3, k3⟩
        have F4 : Fr [96, 1049, 1050] h2 (wb_iu h3 96 0 (6 + i) (ovI e)) := Fr_trans F3 (Fr_iu rfl)
        have zk : ∀ k, k ≠ 6 + i → k < 48 → (wb_iu h3 96 0 (6 + i) (ovI e)).1 96 0 k = h.1 95 0 k := fun k a c => by rw [iu_ne a]; exact k3 k c
        refine K _ F4 (SR_upd n6 S (fun k hk _ a b => (Fr_i F4 (by rfl)).trans (y1 k)) ((Fr_i F4 (by rfl)).trans ((y1 2).trans S.1.2.2)) ((zk 12 (by omega) (by decide)).trans r5) ?_ (fun k hk => ?_) (fun k hk => (zk k (by omega) (by omega)).trans (r3 k hk)) (fun k hk => ?_) (fun k hk => ?_) (fun k a b => (Fr_i F4 (by rfl)).trans (y2 k (by omega))) (fun k a b c => zk k (by omega) c)) (keepsK p2 ((Fr_i F4 (by rfl)).trans C54))
        · rw [Fr_i F4 (t := 17) (by rfl), y1, zk 14 (by omega) (by decide)]; exact S.2.2.2.2.1
        · rw [Fr_i F4 (t := 54) (by rfl)]; exact (y2 k (by omega)).trans (S.1.1 k hk)
        · rw [Fr_i F4 (t := 54) (by rfl)]
          show _ = ovI (if k = i then e else rov R k)
          by_cases t : k = i
          · rw [if_pos t, t]; exact y3
          · rw [if_neg t]; exact (y2 _ (by omega)).trans (S.1.2.1 k hk)
        · show _ = ovI (if k = i then e else rov R k)
          by_cases t : k = i
          · rw [if_pos t, t, iu_at]
          · rw [if_neg t]; exact (zk _ (by omega) (by omega)).trans (r4 k hk)
    · have bad : b = nN 3 ∨ (∃ k, b = nN k ∧ 6 ≤ k ∧ k ≤ 2147483647) ∨ (∃ k, b = nM k ∧ 2 ≤ k ∧ k ≤ 2147483648) := by
        rcases NM_all b with ⟨k, rfl, hk⟩ | ⟨k, rfl, hk1, hk2⟩
        · by_cases z : k = 3
          · exact Or.inl (by rw [z])
          · refine Or.inr (Or.inl ⟨k, rfl, ?_, hk⟩)
            by_cases y : k ≤ 5
            · exact absurd ⟨k, Or.inl ⟨y, z⟩, by unfold ovI; rw [if_neg (by omega)]⟩ hb
            · omega
        · refine Or.inr (Or.inr ⟨k, rfl, ?_, hk2⟩)
          by_cases y : k = 1
          · exact absurd ⟨9, Or.inr rfl, by rw [y]; rfl⟩ hb
          · omega
      refine nothing (a := nN 0) C D ?_ ?_
      · show q_X_habit sc h (nN i) b = _
        rw [q_X_habit_eq, X_isHouse_t C hi]
        rcases bad with rfl | ⟨k, rfl, b1, b2⟩ | ⟨k, rfl, b1, b2⟩
        · simp (disch := omega) only [L_0, L_1, L_2, L_3, L_4, L_5, L_6, L_7, L_8, L_9, L_10, L_11, L_12, L_13, L_14, L_15, L_16, L_17, L_18, L_19, L_20, L_21, L_22, L_23, L_24, L_25, L_26, L_27, L_28, L_29, L_30, L_31, L_32, L_33, L_34, L_35, L_40, L_41, L_42, L_43, L_44, L_45, L_47, L_48, L_50, L_53, L_57, L_59, L_60, L_61, L_63, L_64, L_97, L_100, L_101, L_102, L_103, L_122, L_130, L_216, L_255, L_364, L_400, L_402, L_420, L_728, L_768, L_999, L_1000, L_1093, L_1872, L_2000, L_9999, L_12345, L_252645135, L_858993459, L_1103515245, L_1431655765, Lm_1, Lm_2, Lm_8, N_zero, N_cast, N_add, N_mul, N_sub, N_addM, N_lt_tp, N_lt_fp, N_le_tp, N_le_fp, N_eq_tp, N_eq_fp, MN_ltp, MN_lep, NM_ltp, NM_lep, NM_eqp, MN_eqp, MM_lt_tp, MM_lt_fp, MM_le_tp, MM_le_fp, MM_eq_tp, MM_eq_fp, N_cl, N_in_t, N_in_f, M_in, N_div, N_rem, N_nb0, N_nb1, cond_true, cond_false, Bool.not_true, Bool.not_false, Bool.and_true, Bool.true_and, Bool.and_false, Bool.false_and, decide_true, decide_false, Option.bind_some, Option.bind_none, q_X_canBeSet_eq]
        · simp (disch := omega) only [L_0, L_1, L_2, L_3, L_4, L_5, L_6, L_7, L_8, L_9, L_10, L_11, L_12, L_13, L_14, L_15, L_16, L_17, L_18, L_19, L_20, L_21, L_22, L_23, L_24, L_25, L_26, L_27, L_28, L_29, L_30, L_31, L_32, L_33, L_34, L_35, L_40, L_41, L_42, L_43, L_44, L_45, L_47, L_48, L_50, L_53, L_57, L_59, L_60, L_61, L_63, L_64, L_97, L_100, L_101, L_102, L_103, L_122, L_130, L_216, L_255, L_364, L_400, L_402, L_420, L_728, L_768, L_999, L_1000, L_1093, L_1872, L_2000, L_9999, L_12345, L_252645135, L_858993459, L_1103515245, L_1431655765, Lm_1, Lm_2, Lm_8, N_zero, N_cast, N_add, N_mul, N_sub, N_addM, N_lt_tp, N_lt_fp, N_le_tp, N_le_fp, N_eq_tp, N_eq_fp, MN_ltp, MN_lep, NM_ltp, NM_lep, NM_eqp, MN_eqp, MM_lt_tp, MM_lt_fp, MM_le_tp, MM_le_fp, MM_eq_tp, MM_eq_fp, N_cl, N_in_t, N_in_f, M_in, N_div, N_rem, N_nb0, N_nb1, cond_true, cond_false, Bool.not_true, Bool.not_false, Bool.and_true, Bool.true_and, Bool.and_false, Bool.false_and, decide_true, decide_false, Option.bind_some, Option.bind_none, q_X_canBeSet_eq]
        · simp (disch := omega) only [L_0, L_1, L_2, L_3, L_4, L_5, L_6, L_7, L_8, L_9, L_10, L_11, L_12, L_13, L_14, L_15, L_16, L_17, L_18, L_19, L_20, L_21, L_22, L_23, L_24, L_25, L_26, L_27, L_28, L_29, L_30, L_31, L_32, L_33, L_34, L_35, L_40, L_41, L_42, L_43, L_44, L_45, L_47, L_48, L_50, L_53, L_57, L_59, L_60, L_61, L_63, L_64, L_97, L_100, L_101, L_102, L_103, L_122, L_130, L_216, L_255, L_364, L_400, L_402, L_420, L_728, L_768, L_999, L_1000, L_1093, L_1872, L_2000, L_9999, L_12345, L_252645135, L_858993459, L_1103515245, L_1431655765, Lm_1, Lm_2, Lm_8, N_zero, N_cast, N_add, N_mul, N_sub, N_addM, N_lt_tp, N_lt_fp, N_le_tp, N_le_fp, N_eq_tp, N_eq_fp, MN_ltp, MN_lep, NM_ltp, NM_lep, NM_eqp, MN_eqp, MM_lt_tp, MM_lt_fp, MM_le_tp, MM_le_fp, MM_eq_tp, MM_eq_fp, N_cl, N_in_t, N_in_f, M_in, N_div, N_rem, N_nb0, N_nb1, cond_true, cond_false, Bool.not_true, Bool.not_false, Bool.and_true, Bool.true_and, Bool.and_false, Bool.false_and, decide_true, decide_false, Option.bind_some, Option.bind_none, q_X_canBeSet_eq]
      · show q_M_habit sc h (nN i) b = _
        rw [q_M_habit_eq, M_isHouse_t C hi]
        rcases bad with rfl | ⟨k, rfl, b1, b2⟩ | ⟨k, rfl, b1, b2⟩
        · simp (disch := omega) only [L_0, L_1, L_2, L_3, L_4, L_5, L_6, L_7, L_8, L_9, L_10, L_11, L_12, L_13, L_14, L_15, L_16, L_17, L_18, L_19, L_20, L_21, L_22, L_23, L_24, L_25, L_26, L_27, L_28, L_29, L_30, L_31, L_32, L_33, L_34, L_35, L_40, L_41, L_42, L_43, L_44, L_45, L_47, L_48, L_50, L_53, L_57, L_59, L_60, L_61, L_63, L_64, L_97, L_100, L_101, L_102, L_103, L_122, L_130, L_216, L_255, L_364, L_400, L_402, L_420, L_728, L_768, L_999, L_1000, L_1093, L_1872, L_2000, L_9999, L_12345, L_252645135, L_858993459, L_1103515245, L_1431655765, Lm_1, Lm_2, Lm_8, N_zero, N_cast, N_add, N_mul, N_sub, N_addM, N_lt_tp, N_lt_fp, N_le_tp, N_le_fp, N_eq_tp, N_eq_fp, MN_ltp, MN_lep, NM_ltp, NM_lep, NM_eqp, MN_eqp, MM_lt_tp, MM_lt_fp, MM_le_tp, MM_le_fp, MM_eq_tp, MM_eq_fp, N_cl, N_in_t, N_in_f, M_in, N_div, N_rem, N_nb0, N_nb1, cond_true, cond_false, Bool.not_true, Bool.not_false, Bool.and_true, Bool.true_and, Bool.and_false, Bool.false_and, decide_true, decide_false, Option.bind_some, Option.bind_none, q_M_in_eq]
        · simp (disch := omega) only [L_0, L_1, L_2, L_3, L_4, L_5, L_6, L_7, L_8, L_9, L_10, L_11, L_12, L_13, L_14, L_15, L_16, L_17, L_18, L_19, L_20, L_21, L_22, L_23, L_24, L_25, L_26, L_27, L_28, L_29, L_30, L_31, L_32, L_33, L_34, L_35, L_40, L_41, L_42, L_43, L_44, L_45, L_47, L_48, L_50, L_53, L_57, L_59, L_60, L_61, L_63, L_64, L_97, L_100, L_101, L_102, L_103, L_122, L_130, L_216, L_255, L_364, L_400, L_402, L_420, L_728, L_768, L_999, L_1000, L_1093, L_1872, L_2000, L_9999, L_12345, L_252645135, L_858993459, L_1103515245, L_1431655765, Lm_1, Lm_2, Lm_8, N_zero, N_cast, N_add, N_mul, N_sub, N_addM, N_lt_tp, N_lt_fp, N_le_tp, N_le_fp, N_eq_tp, N_eq_fp, MN_ltp, MN_lep, NM_ltp, NM_lep, NM_eqp, MN_eqp, MM_lt_tp, MM_lt_fp, MM_le_tp, MM_le_fp, MM_eq_tp, MM_eq_fp, N_cl, N_in_t, N_in_f, M_in, N_div, N_rem, N_nb0, N_nb1, cond_true, cond_false, Bool.not_true, Bool.not_false, Bool.and_true, Bool.true_and, Bool.and_false, Bool.false_and, decide_true, decide_false, Option.bind_some, Option.bind_none, q_M_in_eq]
        · simp (disch := omega) only [L_0, L_1, L_2, L_3, L_4, L_5, L_6, L_7, L_8, L_9, L_10, L_11, L_12, L_13, L_14, L_15, L_16, L_17, L_18, L_19, L_20, L_21, L_22, L_23, L_24, L_25, L_26, L_27, L_28, L_29, L_30, L_31, L_32, L_33, L_34, L_35, L_40, L_41, L_42, L_43, L_44, L_45, L_47, L_48, L_50, L_53, L_57, L_59, L_60, L_61, L_63, L_64, L_97, L_100, L_101, L_102, L_103, L_122, L_130, L_216, L_255, L_364, L_400, L_402, L_420, L_728, L_768, L_999, L_1000, L_1093, L_1872, L_2000, L_9999, L_12345, L_252645135, L_858993459, L_1103515245, L_1431655765, Lm_1, Lm_2, Lm_8, N_zero, N_cast, N_add, N_mul, N_sub, N_addM, N_lt_tp, N_lt_fp, N_le_tp, N_le_fp, N_eq_tp, N_eq_fp, MN_ltp, MN_lep, NM_ltp, NM_lep, NM_eqp, MN_eqp, MM_lt_tp, MM_lt_fp, MM_le_tp, MM_le_fp, MM_eq_tp, MM_eq_fp, N_cl, N_in_t, N_in_f, M_in, N_div, N_rem, N_nb0, N_nb1, cond_true, cond_false, Bool.not_true, Bool.not_false, Bool.and_true, Bool.true_and, Bool.and_false, Bool.false_and, decide_true, decide_false, Option.bind_some, Option.bind_none, q_M_in_eq]
  · refine nothing (a := nN 0) C D ?_ ?_
    · show q_X_habit sc h a b = _
      rw [q_X_habit_eq, X_isHouse_f C ha]
      simp (disch := omega) only [L_0, L_1, L_2, L_3, L_4, L_5, L_6, L_7, L_8, L_9, L_10, L_11, L_12, L_13, L_14, L_15, L_16, L_17, L_18, L_19, L_20, L_21, L_22, L_23, L_24, L_25, L_26, L_27, L_28, L_29, L_30, L_31, L_32, L_33, L_34, L_35, L_40, L_41, L_42, L_43, L_44, L_45, L_47, L_48, L_50, L_53, L_57, L_59, L_60, L_61, L_63, L_64, L_97, L_100, L_101, L_102, L_103, L_122, L_130, L_216, L_255, L_364, L_400, L_402, L_420, L_728, L_768, L_999, L_1000, L_1093, L_1872, L_2000, L_9999, L_12345, L_252645135, L_858993459, L_1103515245, L_1431655765, Lm_1, Lm_2, Lm_8, N_zero, N_cast, N_add, N_mul, N_sub, N_addM, N_lt_tp, N_lt_fp, N_le_tp, N_le_fp, N_eq_tp, N_eq_fp, MN_ltp, MN_lep, NM_ltp, NM_lep, NM_eqp, MN_eqp, MM_lt_tp, MM_lt_fp, MM_le_tp, MM_le_fp, MM_eq_tp, MM_eq_fp, N_cl, N_in_t, N_in_f, M_in, N_div, N_rem, N_nb0, N_nb1, cond_true, cond_false, Bool.not_true, Bool.not_false, Bool.and_true, Bool.true_and, Bool.and_false, Bool.false_and, decide_true, decide_false, Option.bind_some, Option.bind_none]
    · show q_M_habit sc h a b = _
      rw [q_M_habit_eq, M_isHouse_f C ha]
      simp (disch := omega) only [L_0, L_1, L_2, L_3, L_4, L_5, L_6, L_7, L_8, L_9, L_10, L_11, L_12, L_13, L_14, L_15, L_16, L_17, L_18, L_19, L_20, L_21, L_22, L_23, L_24, L_25, L_26, L_27, L_28, L_29, L_30, L_31, L_32, L_33, L_34, L_35, L_40, L_41, L_42, L_43, L_44, L_45, L_47, L_48, L_50, L_53, L_57, L_59, L_60, L_61, L_63, L_64, L_97, L_100, L_101, L_102, L_103, L_122, L_130, L_216, L_255, L_364, L_400, L_402, L_420, L_728, L_768, L_999, L_1000, L_1093, L_1872, L_2000, L_9999, L_12345, L_252645135, L_858993459, L_1103515245, L_1431655765, Lm_1, Lm_2, Lm_8, N_zero, N_cast, N_add, N_mul, N_sub, N_addM, N_lt_tp, N_lt_fp, N_le_tp, N_le_fp, N_eq_tp, N_eq_fp, MN_ltp, MN_lep, NM_ltp, NM_lep, NM_eqp, MN_eqp, MM_lt_tp, MM_lt_fp, MM_le_tp, MM_le_fp, MM_eq_tp, MM_eq_fp, N_cl, N_in_t, N_in_f, M_in, N_div, N_rem, N_nb0, N_nb1, cond_true, cond_false, Bool.not_true, Bool.not_false, Bool.and_true, Bool.true_and, Bool.and_false, Bool.false_and, decide_true, decide_false, Option.bind_some, Option.bind_none]
end
