/-! One night goes by in the reference. -/
theorem MA_keep {h h1 : wb_H} {s l : Nat} {A : wa} (hA : wa_ok A) (a : Fr [96] h h1) (k96 : ∀ k, k < 13 → h1.1 96 0 k = h.1 96 0 k) (hM : MA h s l A) : MA h1 s l A := by
  have h6 := hA.1
  obtain ⟨a1, a2, a3, a4, a5, a6, a7, a8, a9, a10, a11, a12⟩ := hM
  refine ⟨a1, (Fr_i a (by rfl)).trans a2, (Fr_i a (by rfl)).trans a3, (Fr_i a (by rfl)).trans a4, a5, (k96 12 (by decide)).trans a6, fun i hi => (k96 i (by omega)).trans (a7 i hi), fun i hi => (Fr_i a (by rfl)).trans (a8 i hi), a9, fun i hi q => ?_, fun i hi q => (Fr_i a (by rfl)).trans (a11 i hi q), LM_agl (Agl_fr a rfl) a12⟩
  obtain ⟨b1, b2⟩ := a10 i hi q
  refine ⟨(Fr_i a (by rfl)).trans b1, ?_⟩
  rcases b2 with b2 | ⟨b2, b3⟩
  · exact Or.inl ((k96 (6 + i) (by omega)).trans b2)
  · exact Or.inr ⟨(k96 (6 + i) (by omega)).trans b2, (Fr_i a (by rfl)).trans b3⟩
/-- what a night leaves in the reference's row -/
def MN (h h' : wb_H) (A : wa) (f o v w : Nat) : Prop := Fr [96] h h' ∧ (∀ k, k < 13 → h'.1 96 0 k = h.1 96 0 k) ∧ h'.1 96 0 13 = nN (v + 1) ∧ h'.1 96 0 14 = h.1 96 0 14 + nN (sm (an A) (feP A f o w)) ∧ h'.1 96 0 15 = h.1 96 0 15 + nN (wrW A 0 w) ∧ h'.1 96 0 16 = nN 1 ∧ h'.1 96 0 17 = nN (tb w 0) ∧ h'.1 96 0 18 = nN (wrW A 0 w) ∧ h'.1 96 0 19 = nN (sm (an A) (feP A f o w)) ∧ ∀ i, i < an A → h'.1 96 0 (20 + i) = nN (fin A 0 w (apl A i)) ∧ h'.1 96 0 (26 + i) = nN (sg w i) ∧ h'.1 96 0 (32 + i) = h.1 96 0 (32 + i) + nN (wrB A 0 w (apl A i))
def MNj (h h' : wb_H) (A : wa) (f o w j : Nat) : Prop := Fr [96] h h' ∧ (∀ k, k < 16 → h'.1 96 0 k = h.1 96 0 k) ∧ h'.1 96 0 16 = nN 1 ∧ h'.1 96 0 17 = nN (tb w 0) ∧ h'.1 96 0 18 = nN (wrW A 0 w) ∧ h'.1 96 0 19 = nN (sm j (fun i => feP A f o w (apl A i))) ∧ (∀ i, i < j → h'.1 96 0 (20 + i) = nN (fin A 0 w (apl A i)) ∧ h'.1 96 0 (26 + i) = nN (sg w i) ∧ h'.1 96 0 (32 + i) = h.1 96 0 (32 + i) + nN (wrB A 0 w (apl A i))) ∧ (∀ i, j ≤ i → i < 6 → h'.1 96 0 (32 + i) = h.1 96 0 (32 + i))
theorem N_add0 (x : Int32) : x + nN 0 = x := Int32.add_zero x
section
variable {sc : wb_X} {B : Nat}
theorem M_pl {h : wb_H} {g : Nat} (hg : g ≤ 1) : q_M_plainOf sc h (nN g) = some (nN g, h) := by
  rw [q_M_plainOf_eq]
  rcases N01 (show g < 2 by omega) with e | e <;> subst e <;> simp (disch := omega) only [L_0, L_1, L_2, L_3, L_4, L_5, L_6, L_7, L_8, L_9, L_10, L_11, L_12, L_13, L_14, L_15, L_16, L_17, L_18, L_19, L_20, L_21, L_22, L_23, L_24, L_25, L_26, L_27, L_28, L_29, L_30, L_31, L_32, L_33, L_34, L_35, L_40, L_41, L_42, L_43, L_44, L_45, L_47, L_48, L_50, L_53, L_57, L_59, L_60, L_61, L_63, L_64, L_97, L_100, L_101, L_102, L_103, L_122, L_130, L_216, L_255, L_364, L_400, L_402, L_420, L_728, L_768, L_999, L_1000, L_1093, L_1872, L_2000, L_9999, L_12345, L_252645135, L_858993459, L_1103515245, L_1431655765, Lm_1, Lm_2, Lm_8, N_zero, N_cast, N_add, N_mul, N_sub, N_addM, N_lt_tp, N_lt_fp, N_le_tp, N_le_fp, N_eq_tp, N_eq_fp, MN_ltp, MN_lep, NM_ltp, NM_lep, NM_eqp, MN_eqp, MM_lt_tp, MM_lt_fp, MM_le_tp, MM_le_fp, MM_eq_tp, MM_eq_fp, N_cl, N_in_t, N_in_f, M_in, N_div, N_rem, N_nb0, N_nb1, cond_true, cond_false, Bool.not_true, Bool.not_false, Bool.and_true, Bool.true_and, Bool.and_false, Bool.false_and, decide_true, decide_false, Option.bind_some, Option.bind_none]
theorem M_world {h : wb_H} {A : wa} {s l v : Nat} {L : Nat → Int32} (hA : wa_ok A) (hM : MA h s l A) (hl : ∀ x, q_M_lotOf sc h (nN x) = some (L x, h)) (h13 : h.1 96 0 13 = nN v) : q_M_worldNow sc h = some (nN (wN A L v (an A)), h) := by
  have n6 := hA.1
  have a1 := hM.1
  have a2 := hM.2.1
  have a3 := hM.2.2.1
  have a4 := hM.2.2.2.1
  have key : ∀ k j, j + k = an A → q_M_worldNow_L34 sc h (nN (wN A L v j)) (nN j) = some (nN (wN A L v (an A)), h) := by
    intro k
    induction k with
    | zero =>
      intro j hj
      rw [Nat.add_zero] at hj
      subst hj
      rw [q_M_worldNow_L34_eq]
      simp (disch := omega) only [L_0, L_1, L_2, L_3, L_4, L_5, L_6, L_7, L_8, L_9, L_10, L_11, L_12, L_13, L_14, L_15, L_16, L_17, L_18, L_19, L_20, L_21, L_22, L_23, L_24, L_25, L_26, L_27, L_28, L_29, L_30, L_31, L_32, L_33, L_34, L_35, L_40, L_41, L_42, L_43, L_44, L_45, L_47, L_48, L_50, L_53, L_57, L_59, L_60, L_61, L_63, L_64, L_97, L_100, L_101, L_102, L_103, L_122, L_130, L_216, L_255, L_364, L_400, L_402, L_420, L_728, L_768, L_999, L_1000, L_1093, L_1872, L_2000, L_9999, L_12345, L_252645135, L_858993459, L_1103515245, L_1431655765, Lm_1, Lm_2, Lm_8, N_zero, N_cast, N_add, N_mul, N_sub, N_addM, N_lt_tp, N_lt_fp, N_le_tp, N_le_fp, N_eq_tp, N_eq_fp, MN_ltp, MN_lep, NM_ltp, NM_lep, NM_eqp, MN_eqp, MM_lt_tp, MM_lt_fp, MM_le_tp, MM_le_fp, MM_eq_tp, MM_eq_fp, N_cl, N_in_t, N_in_f, M_in, N_div, N_rem, N_nb0, N_nb1, cond_true, cond_false, Bool.not_true, Bool.not_false, Bool.and_true, Bool.true_and, Bool.and_false, Bool.false_and, decide_true, decide_false, Option.bind_some, Option.bind_none, a2, a3]
    | succ k ih =>
      intro j hj
      have lt := wN_lt A L v j
      have p64 := p2_64 (show j ≤ 5 by omega)
      have ob := bt_or64 (wN A L v j) (by omega) j (by omega)
      have ih2 := ih (j + 1) (by omega)
      rw [wN] at ih2
      rw [q_M_worldNow_L34_eq]
      simp (disch := omega) only [L_0, L_1, L_2, L_3, L_4, L_5, L_6, L_7, L_8, L_9, L_10, L_11, L_12, L_13, L_14, L_15, L_16, L_17, L_18, L_19, L_20, L_21, L_22, L_23, L_24, L_25, L_26, L_27, L_28, L_29, L_30, L_31, L_32, L_33, L_34, L_35, L_40, L_41, L_42, L_43, L_44, L_45, L_47, L_48, L_50, L_53, L_57, L_59, L_60, L_61, L_63, L_64, L_97, L_100, L_101, L_102, L_103, L_122, L_130, L_216, L_255, L_364, L_400, L_402, L_420, L_728, L_768, L_999, L_1000, L_1093, L_1872, L_2000, L_9999, L_12345, L_252645135, L_858993459, L_1103515245, L_1431655765, Lm_1, Lm_2, Lm_8, N_zero, N_cast, N_add, N_mul, N_sub, N_addM, N_lt_tp, N_lt_fp, N_le_tp, N_le_fp, N_eq_tp, N_eq_fp, MN_ltp, MN_lep, NM_ltp, NM_lep, NM_eqp, MN_eqp, MM_lt_tp, MM_lt_fp, MM_le_tp, MM_le_fp, MM_eq_tp, MM_eq_fp, N_cl, N_in_t, N_in_f, M_in, N_div, N_rem, N_nb0, N_nb1, cond_true, cond_false, Bool.not_true, Bool.not_false, Bool.and_true, Bool.true_and, Bool.and_false, Bool.false_and, decide_true, decide_false, Option.bind_some, Option.bind_none, a2, a3, h13, hl, M_sureNow (sc := sc) hA hM (show j < an A by omega), ob]
      by_cases y : nN (asu A j) ≤ L (16 * v + 1 + j)
      · rw [if_pos y] at ih2
        simp only [eq_true y, decide_true, cond_true]
        exact ih2
      · rw [if_neg y] at ih2
        simp only [eq_false y, decide_false, cond_false]
        exact ih2
  have st := key (an A) 0 (Nat.zero_add _)
  rw [wN] at st
  rw [q_M_worldNow_eq]
  simp (disch := omega) only [L_0, L_1, L_2, L_3, L_4, L_5, L_6, L_7, L_8, L_9, L_10, L_11, L_12, L_13, L_14, L_15, L_16, L_17, L_18, L_19, L_20, L_21, L_22, L_23, L_24, L_25, L_26, L_27, L_28, L_29, L_30, L_31, L_32, L_33, L_34, L_35, L_40, L_41, L_42, L_43, L_44, L_45, L_47, L_48, L_50, L_53, L_57, L_59, L_60, L_61, L_63, L_64, L_97, L_100, L_101, L_102, L_103, L_122, L_130, L_216, L_255, L_364, L_400, L_402, L_420, L_728, L_768, L_999, L_1000, L_1093, L_1872, L_2000, L_9999, L_12345, L_252645135, L_858993459, L_1103515245, L_1431655765, Lm_1, Lm_2, Lm_8, N_zero, N_cast, N_add, N_mul, N_sub, N_addM, N_lt_tp, N_lt_fp, N_le_tp, N_le_fp, N_eq_tp, N_eq_fp, MN_ltp, MN_lep, NM_ltp, NM_lep, NM_eqp, MN_eqp, MM_lt_tp, MM_lt_fp, MM_le_tp, MM_le_fp, MM_eq_tp, MM_eq_fp, N_cl, N_in_t, N_in_f, M_in, N_div, N_rem, N_nb0, N_nb1, cond_true, cond_false, Bool.not_true, Bool.not_false, Bool.and_true, Bool.true_and, Bool.and_false, Bool.false_and, decide_true, decide_false, Option.bind_some, Option.bind_none, a2, a4, h13, hl]
  by_cases y : nN (aB A) ≤ L (16 * v)
  · rw [if_pos y] at st
    simp only [eq_true y, decide_true, cond_true]
    exact st
  · rw [if_neg y] at st
    simp only [eq_false y, decide_false, cond_false]
    exact st
theorem M_night {h : wb_H} {A : wa} {s l v f o : Nat} {L : Nat → Int32} (hA : wa_ok A) (hM : MA h s l A) (hO : fO h A 0) (hl : ∀ x, q_M_lotOf sc h (nN x) = some (L x, h)) (h13 : h.1 96 0 13 = nN v) (hf : f ≤ 30) (ho : o ≤ 30) (h81 : h.1 81 0 s = nN f) (h82 : h.1 82 0 s = nN o) : Ok (q_M_nightGoes sc h) (fun h' => MN h h' A f o v (wN A L v (an A))) := by
  have n6 := hA.1
  have h128 := nw_le hA
  have wl := wN_lt A L v (an A)
  have wlt : wN A L v (an A) < nw A := wl
  have W := M_world (sc := sc) hA hM hl h13
  generalize wN A L v (an A) = w at *
  have bl := bt_low w (by omega)
  have key : ∀ k j, j + k = an A → ∀ h', MNj h h' A f o w j → Ok (q_M_nightGoes_L45 sc h' (nN w) (nN j)) (fun h' => MN h h' A f o v w) := by
    intro k
    induction k with
    | zero =>
      intro j hj h' H
      rw [Nat.add_zero] at hj
      subst hj
      obtain ⟨F, k16, r16, r17, r18, r19, new, -⟩ := H
      have hM' := MA_keep hA F (fun k hk => k16 k (by omega)) hM
      have b1 := hM'.1
      have b2 := hM'.2.1
      have b3 := hM'.2.2.1
      rw [sm_house hA (feP A f o w)] at r19
      rw [q_M_nightGoes_L45_eq, q_M_nightGoes_L212_eq]
      simp (disch := omega) only [L_0, L_1, L_2, L_3, L_4, L_5, L_6, L_7, L_8, L_9, L_10, L_11, L_12, L_13, L_14, L_15, L_16, L_17, L_18, L_19, L_20, L_21, L_22, L_23, L_24, L_25, L_26, L_27, L_28, L_29, L_30, L_31, L_32, L_33, L_34, L_35, L_40, L_41, L_42, L_43, L_44, L_45, L_47, L_48, L_50, L_53, L_57, L_59, L_60, L_61, L_63, L_64, L_97, L_100, L_101, L_102, L_103, L_122, L_130, L_216, L_255, L_364, L_400, L_402, L_420, L_728, L_768, L_999, L_1000, L_1093, L_1872, L_2000, L_9999, L_12345, L_252645135, L_858993459, L_1103515245, L_1431655765, Lm_1, Lm_2, Lm_8, N_zero, N_cast, N_add, N_mul, N_sub, N_addM, N_lt_tp, N_lt_fp, N_le_tp, N_le_fp, N_eq_tp, N_eq_fp, MN_ltp, MN_lep, NM_ltp, NM_lep, NM_eqp, MN_eqp, MM_lt_tp, MM_lt_fp, MM_le_tp, MM_le_fp, MM_eq_tp, MM_eq_fp, N_cl, N_in_t, N_in_f, M_in, N_div, N_rem, N_nb0, N_nb1, cond_true, cond_false, Bool.not_true, Bool.not_false, Bool.and_true, Bool.true_and, Bool.and_false, Bool.false_and, decide_true, decide_false, Option.bind_some, Option.bind_none, b2, b3, k16 14 (by decide), r19, iu_ne (show 15 ≠ 14 by decide), iu_ne (show 18 ≠ 14 by decide), iu_ne (show 13 ≠ 14 by decide), iu_ne (show 13 ≠ 15 by decide), k16 15 (by decide), r18, k16 13 (by decide), h13]
      refine Ok_some ⟨Fr_trans F (Fr_trans (Fr_trans (Fr_iu rfl) (Fr_iu rfl)) (Fr_iu rfl)), fun k hk => ?_, iu_at, ?_, ?_, ?_, ?_, ?_, ?_, fun i hi => ?_⟩
      · rw [iu_ne (by omega), iu_ne (by omega), iu_ne (by omega)]; exact k16 k (by omega)
      · rw [iu_ne (by omega), iu_ne (by omega), iu_at]
      · rw [iu_ne (by omega), iu_at]
      · rw [iu_ne (by omega), iu_ne (by omega), iu_ne (by omega)]; exact r16
      · rw [iu_ne (by omega), iu_ne (by omega), iu_ne (by omega)]; exact r17
      · rw [iu_ne (by omega), iu_ne (by omega), iu_ne (by omega)]; exact r18
      · rw [iu_ne (by omega), iu_ne (by omega), iu_ne (by omega)]; exact r19
      · rw [iu_ne (by omega), iu_ne (by omega), iu_ne (by omega), iu_ne (by omega), iu_ne (by omega), iu_ne (by omega), iu_ne (by omega), iu_ne (by omega), iu_ne (by omega)]
        exact new i hi
    | succ k ih =>
      intro j hj h' H
      obtain ⟨F, k16, r16, r17, r18, r19, new, old⟩ := H
      have hM' := MA_keep hA F (fun k hk => k16 k (by omega)) hM
      have hO' := fO_fr F rfl hO
      have b1 := hM'.1
      have b2 := hM'.2.1
      have b3 := hM'.2.2.1
      have c7 := hM'.2.2.2.2.2.2.1 j (by omega)
      have hh := hA.2.2.1 j (by omega)
      have c97 := hO'.2 w wlt (apl A j) (by omega)
      have f3 : dg (rr A 0 (an A) w) (apl A j) = fin A 0 w (apl A j) := rfl
      rw [f3] at c97
      have fl := fin_le A 0 w (apl A j)
      have tb0 := tb_lt w 0
      have sl := sg_le w j
      have old0 := old j (Nat.le_refl _) (by omega)
      have rest : ∀ x, x = (if fin A 0 w (apl A j) = 2 then o else 0) → ∀ h2, Fr [96] h' h2 → (∀ k, k < 19 → h2.1 96 0 k = h'.1 96 0 k) → h2.1 96 0 19 = nN (sm j (fun i => feP A f o w (apl A i)) + x) → h2.1 96 0 (20 + j) = nN (fin A 0 w (apl A j)) → h2.1 96 0 (26 + j) = nN (sg w j) → (∀ i, i ≠ j → i < 6 → h2.1 96 0 (20 + i) = h'.1 96 0 (20 + i) ∧ h2.1 96 0 (26 + i) = h'.1 96 0 (26 + i)) → (∀ i, i < 6 → h2.1 96 0 (32 + i) = h'.1 96 0 (32 + i)) → Ok (q_M_nightGoes_L128 sc h2 (nN w) (nN j)) (fun h' => MN h h' A f o v w) := by
        intro x hx h2 F2 g19 g s20 s26 s20o s32
        have FF := Fr_trans F F2
        have kk : ∀ k, k < 16 → h2.1 96 0 k = h.1 96 0 k := fun k hk => (g19 k (by omega)).trans (k16 k hk)
        have hM2 := MA_keep hA FF (fun k hk => kk k (by omega)) hM
        have hO2 := fO_fr FF rfl hO
        have d2 := hM2.2.1
        have d81 : h2.1 81 0 s = nN f := (Fr_i FF (by rfl)).trans h81
        have o32 : h2.1 96 0 (32 + j) = h.1 96 0 (32 + j) := (s32 j (by omega)).trans old0
        have wb := wrB_le A 0 w (apl A j)
        have news : ∀ i, i < j → h2.1 96 0 (20 + i) = nN (fin A 0 w (apl A i)) ∧ h2.1 96 0 (26 + i) = nN (sg w i) ∧ h2.1 96 0 (32 + i) = h.1 96 0 (32 + i) + nN (wrB A 0 w (apl A i)) := fun i hi => by
          obtain ⟨n1, n2, n3⟩ := new i hi
          obtain ⟨s1, s2⟩ := s20o i (by omega) (by omega)
          exact ⟨s1.trans n1, s2.trans n2, (s32 i (by omega)).trans n3⟩
        rw [q_M_nightGoes_L128_eq, M_isWrongIn hA hM2 hO2 (show j < an A by omega) wlt]
        by_cases z : wrB A 0 w (apl A j) = 1
        · have e : fin A 0 w (apl A j) < 2 ∧ fin A 0 w (apl A j) ≠ tb w 0 := by
            unfold wrB at z
            by_cases y : fin A 0 w (apl A j) < 2 ∧ fin A 0 w (apl A j) ≠ tb w 0
            · exact y
            · rw [if_neg y] at z; omega
          have ef : feP A f o w (apl A j) = x + f := by
            unfold feP
            rw [hx, if_neg (by omega), if_pos e.2, if_neg (by omega), Nat.zero_add]
          simp (disch := omega) only [L_0, L_1, L_2, L_3, L_4, L_5, L_6, L_7, L_8, L_9, L_10, L_11, L_12, L_13, L_14, L_15, L_16, L_17, L_18, L_19, L_20, L_21, L_22, L_23, L_24, L_25, L_26, L_27, L_28, L_29, L_30, L_31, L_32, L_33, L_34, L_35, L_40, L_41, L_42, L_43, L_44, L_45, L_47, L_48, L_50, L_53, L_57, L_59, L_60, L_61, L_63, L_64, L_97, L_100, L_101, L_102, L_103, L_122, L_130, L_216, L_255, L_364, L_400, L_402, L_420, L_728, L_768, L_999, L_1000, L_1093, L_1872, L_2000, L_9999, L_12345, L_252645135, L_858993459, L_1103515245, L_1431655765, Lm_1, Lm_2, Lm_8, N_zero, N_cast, N_add, N_mul, N_sub, N_addM, N_lt_tp, N_lt_fp, N_le_tp, N_le_fp, N_eq_tp, N_eq_fp, MN_ltp, MN_lep, NM_ltp, NM_lep, NM_eqp, MN_eqp, MM_lt_tp, MM_lt_fp, MM_le_tp, MM_le_fp, MM_eq_tp, MM_eq_fp, N_cl, N_in_t, N_in_f, M_in, N_div, N_rem, N_nb0, N_nb1, cond_true, cond_false, Bool.not_true, Bool.not_false, Bool.and_true, Bool.true_and, Bool.and_false, Bool.false_and, decide_true, decide_false, Option.bind_some, Option.bind_none, z, d2, d81, g, iu_ne (show 32 + j ≠ 19 by omega), o32]
          rw [q_M_nightGoes_L172_eq]
          simp (disch := omega) only [L_0, L_1, L_2, L_3, L_4, L_5, L_6, L_7, L_8, L_9, L_10, L_11, L_12, L_13, L_14, L_15, L_16, L_17, L_18, L_19, L_20, L_21, L_22, L_23, L_24, L_25, L_26, L_27, L_28, L_29, L_30, L_31, L_32, L_33, L_34, L_35, L_40, L_41, L_42, L_43, L_44, L_45, L_47, L_48, L_50, L_53, L_57, L_59, L_60, L_61, L_63, L_64, L_97, L_100, L_101, L_102, L_103, L_122, L_130, L_216, L_255, L_364, L_400, L_402, L_420, L_728, L_768, L_999, L_1000, L_1093, L_1872, L_2000, L_9999, L_12345, L_252645135, L_858993459, L_1103515245, L_1431655765, Lm_1, Lm_2, Lm_8, N_add]
          refine ih (j + 1) (by omega) _ ⟨Fr_trans FF (Fr_trans (Fr_iu rfl) (Fr_iu rfl)), fun k hk => ?_, ?_, ?_, ?_, ?_, fun i hi => ?_, fun i hi hi6 => ?_⟩
          · rw [iu_ne (by omega), iu_ne (by omega)]; exact kk k hk
          · rw [iu_ne (by omega), iu_ne (by omega), g19 16 (by omega)]; exact r16
          · rw [iu_ne (by omega), iu_ne (by omega), g19 17 (by omega)]; exact r17
          · rw [iu_ne (by omega), iu_ne (by omega), g19 18 (by omega)]; exact r18
          · rw [iu_ne (by omega), iu_at, sm, ef, Nat.add_assoc]
          · by_cases y : i = j
            · rw [y, iu_ne (by omega), iu_ne (by omega), iu_ne (by omega), iu_ne (by omega), iu_at, z]
              exact ⟨s20, s26, rfl⟩
            · rw [iu_ne (by omega), iu_ne (by omega), iu_ne (by omega), iu_ne (by omega), iu_ne (by omega), iu_ne (by omega)]
              exact news i (by omega)
          · rw [iu_ne (by omega), iu_ne (by omega)]
            exact (s32 i hi6).trans (old i (by omega) hi6)
        · have z0 : wrB A 0 w (apl A j) = 0 := by omega
          have ef : feP A f o w (apl A j) = x := by
            unfold feP
            unfold wrB at z0
            rw [hx]
            by_cases y : fin A 0 w (apl A j) = 2
            · rw [if_pos y, if_pos y]
            · rw [if_neg y, if_neg y, if_neg]
              intro t
              rw [if_pos ⟨by omega, t⟩] at z0
              omega
          simp (disch := omega) only [L_0, L_1, L_2, L_3, L_4, L_5, L_6, L_7, L_8, L_9, L_10, L_11, L_12, L_13, L_14, L_15, L_16, L_17, L_18, L_19, L_20, L_21, L_22, L_23, L_24, L_25, L_26, L_27, L_28, L_29, L_30, L_31, L_32, L_33, L_34, L_35, L_40, L_41, L_42, L_43, L_44, L_45, L_47, L_48, L_50, L_53, L_57, L_59, L_60, L_61, L_63, L_64, L_97, L_100, L_101, L_102, L_103, L_122, L_130, L_216, L_255, L_364, L_400, L_402, L_420, L_728, L_768, L_999, L_1000, L_1093, L_1872, L_2000, L_9999, L_12345, L_252645135, L_858993459, L_1103515245, L_1431655765, Lm_1, Lm_2, Lm_8, N_zero, N_cast, N_add, N_mul, N_sub, N_addM, N_lt_tp, N_lt_fp, N_le_tp, N_le_fp, N_eq_tp, N_eq_fp, MN_ltp, MN_lep, NM_ltp, NM_lep, NM_eqp, MN_eqp, MM_lt_tp, MM_lt_fp, MM_le_tp, MM_le_fp, MM_eq_tp, MM_eq_fp, N_cl, N_in_t, N_in_f, M_in, N_div, N_rem, N_nb0, N_nb1, cond_true, cond_false, Bool.not_true, Bool.not_false, Bool.and_true, Bool.true_and, Bool.and_false, Bool.false_and, decide_true, decide_false, Option.bind_some, Option.bind_none, z0]
          rw [q_M_nightGoes_L172_eq]
          simp (disch := omega) only [L_0, L_1, L_2, L_3, L_4, L_5, L_6, L_7, L_8, L_9, L_10, L_11, L_12, L_13, L_14, L_15, L_16, L_17, L_18, L_19, L_20, L_21, L_22, L_23, L_24, L_25, L_26, L_27, L_28, L_29, L_30, L_31, L_32, L_33, L_34, L_35, L_40, L_41, L_42, L_43, L_44, L_45, L_47, L_48, L_50, L_53, L_57, L_59, L_60, L_61, L_63, L_64, L_97, L_100, L_101, L_102, L_103, L_122, L_130, L_216, L_255, L_364, L_400, L_402, L_420, L_728, L_768, L_999, L_1000, L_1093, L_1872, L_2000, L_9999, L_12345, L_252645135, L_858993459, L_1103515245, L_1431655765, Lm_1, Lm_2, Lm_8, N_add]
          refine ih (j + 1) (by omega) _ ⟨FF, kk, (g19 16 (by omega)).trans r16, (g19 17 (by omega)).trans r17, (g19 18 (by omega)).trans r18, ?_, fun i hi => ?_, fun i hi hi6 => ?_⟩
          · rw [g, sm, ef]
          · by_cases y : i = j
            · rw [y, z0, N_add0]
              exact ⟨s20, s26, o32⟩
            · exact news i (by omega)
          · exact (s32 i hi6).trans (old i (by omega) hi6)
      rw [q_M_nightGoes_L45_eq]
      simp (disch := omega) only [L_0, L_1, L_2, L_3, L_4, L_5, L_6, L_7, L_8, L_9, L_10, L_11, L_12, L_13, L_14, L_15, L_16, L_17, L_18, L_19, L_20, L_21, L_22, L_23, L_24, L_25, L_26, L_27, L_28, L_29, L_30, L_31, L_32, L_33, L_34, L_35, L_40, L_41, L_42, L_43, L_44, L_45, L_47, L_48, L_50, L_53, L_57, L_59, L_60, L_61, L_63, L_64, L_97, L_100, L_101, L_102, L_103, L_122, L_130, L_216, L_255, L_364, L_400, L_402, L_420, L_728, L_768, L_999, L_1000, L_1093, L_1872, L_2000, L_9999, L_12345, L_252645135, L_858993459, L_1103515245, L_1431655765, Lm_1, Lm_2, Lm_8, N_zero, N_cast, N_add, N_mul, N_sub, N_addM, N_lt_tp, N_lt_fp, N_le_tp, N_le_fp, N_eq_tp, N_eq_fp, MN_ltp, MN_lep, NM_ltp, NM_lep, NM_eqp, MN_eqp, MM_lt_tp, MM_lt_fp, MM_le_tp, MM_le_fp, MM_eq_tp, MM_eq_fp, N_cl, N_in_t, N_in_f, M_in, N_div, N_rem, N_nb0, N_nb1, cond_true, cond_false, Bool.not_true, Bool.not_false, Bool.and_true, Bool.true_and, Bool.and_false, Bool.false_and, decide_true, decide_false, Option.bind_some, Option.bind_none, b2, b3, c7, c97, M_signIn (sc := sc) (show j < 6 by omega) (show w < 128 by omega), M_pl sl]
      by_cases z : fin A 0 w (apl A j) = 2
      · simp (disch := omega) only [L_0, L_1, L_2, L_3, L_4, L_5, L_6, L_7, L_8, L_9, L_10, L_11, L_12, L_13, L_14, L_15, L_16, L_17, L_18, L_19, L_20, L_21, L_22, L_23, L_24, L_25, L_26, L_27, L_28, L_29, L_30, L_31, L_32, L_33, L_34, L_35, L_40, L_41, L_42, L_43, L_44, L_45, L_47, L_48, L_50, L_53, L_57, L_59, L_60, L_61, L_63, L_64, L_97, L_100, L_101, L_102, L_103, L_122, L_130, L_216, L_255, L_364, L_400, L_402, L_420, L_728, L_768, L_999, L_1000, L_1093, L_1872, L_2000, L_9999, L_12345, L_252645135, L_858993459, L_1103515245, L_1431655765, Lm_1, Lm_2, Lm_8, N_zero, N_cast, N_add, N_mul, N_sub, N_addM, N_lt_tp, N_lt_fp, N_le_tp, N_le_fp, N_eq_tp, N_eq_fp, MN_ltp, MN_lep, NM_ltp, NM_lep, NM_eqp, MN_eqp, MM_lt_tp, MM_lt_fp, MM_le_tp, MM_le_fp, MM_eq_tp, MM_eq_fp, N_cl, N_in_t, N_in_f, M_in, N_div, N_rem, N_nb0, N_nb1, cond_true, cond_false, Bool.not_true, Bool.not_false, Bool.and_true, Bool.true_and, Bool.and_false, Bool.false_and, decide_true, decide_false, Option.bind_some, Option.bind_none, z]
        have d82 : h'.1 82 0 s = nN o := (Fr_i F (by rfl)).trans h82
        have d18 : h'.1 21 0 18 = nN s := b2
        simp (disch := omega) only [L_0, L_1, L_2, L_3, L_4, L_5, L_6, L_7, L_8, L_9, L_10, L_11, L_12, L_13, L_14, L_15, L_16, L_17, L_18, L_19, L_20, L_21, L_22, L_23, L_24, L_25, L_26, L_27, L_28, L_29, L_30, L_31, L_32, L_33, L_34, L_35, L_40, L_41, L_42, L_43, L_44, L_45, L_47, L_48, L_50, L_53, L_57, L_59, L_60, L_61, L_63, L_64, L_97, L_100, L_101, L_102, L_103, L_122, L_130, L_216, L_255, L_364, L_400, L_402, L_420, L_728, L_768, L_999, L_1000, L_1093, L_1872, L_2000, L_9999, L_12345, L_252645135, L_858993459, L_1103515245, L_1431655765, Lm_1, Lm_2, Lm_8, N_zero, N_cast, N_add, N_mul, N_sub, N_addM, N_lt_tp, N_lt_fp, N_le_tp, N_le_fp, N_eq_tp, N_eq_fp, MN_ltp, MN_lep, NM_ltp, NM_lep, NM_eqp, MN_eqp, MM_lt_tp, MM_lt_fp, MM_le_tp, MM_le_fp, MM_eq_tp, MM_eq_fp, N_cl, N_in_t, N_in_f, M_in, N_div, N_rem, N_nb0, N_nb1, cond_true, cond_false, Bool.not_true, Bool.not_false, Bool.and_true, Bool.true_and, Bool.and_false, Bool.false_and, decide_true, decide_false, Option.bind_some, Option.bind_none, iu_nt (show 21 ≠ 96 by decide), iu_nt (show 82 ≠ 96 by decide), d18, d82, iu_ne (show 19 ≠ 26 + j by omega), iu_ne (show 19 ≠ 20 + j by omega), r19]
        refine rest o (by rw [if_pos z]) _ (Fr_trans (Fr_trans (Fr_iu rfl) (Fr_iu rfl)) (Fr_iu rfl)) (fun k hk => ?_) iu_at ?_ ?_ (fun i hi hi6 => ?_) (fun i hi => ?_)
        · rw [iu_ne (by omega), iu_ne (by omega), iu_ne (by omega)]
        · rw [iu_ne (by omega), iu_ne (by omega), iu_at, z]
        · rw [iu_ne (by omega), iu_at]
        · rw [iu_ne (by omega), iu_ne (by omega), iu_ne (by omega), iu_ne (by omega), iu_ne (by omega), iu_ne (by omega)]
          exact ⟨rfl, rfl⟩
        · rw [iu_ne (by omega), iu_ne (by omega), iu_ne (by omega)]
      · simp (disch := omega) only [L_0, L_1, L_2, L_3, L_4, L_5, L_6, L_7, L_8, L_9, L_10, L_11, L_12, L_13, L_14, L_15, L_16, L_17, L_18, L_19, L_20, L_21, L_22, L_23, L_24, L_25, L_26, L_27, L_28, L_29, L_30, L_31, L_32, L_33, L_34, L_35, L_40, L_41, L_42, L_43, L_44, L_45, L_47, L_48, L_50, L_53, L_57, L_59, L_60, L_61, L_63, L_64, L_97, L_100, L_101, L_102, L_103, L_122, L_130, L_216, L_255, L_364, L_400, L_402, L_420, L_728, L_768, L_999, L_1000, L_1093, L_1872, L_2000, L_9999, L_12345, L_252645135, L_858993459, L_1103515245, L_1431655765, Lm_1, Lm_2, Lm_8, N_zero, N_cast, N_add, N_mul, N_sub, N_addM, N_lt_tp, N_lt_fp, N_le_tp, N_le_fp, N_eq_tp, N_eq_fp, MN_ltp, MN_lep, NM_ltp, NM_lep, NM_eqp, MN_eqp, MM_lt_tp, MM_lt_fp, MM_le_tp, MM_le_fp, MM_eq_tp, MM_eq_fp, N_cl, N_in_t, N_in_f, M_in, N_div, N_rem, N_nb0, N_nb1, cond_true, cond_false, Bool.not_true, Bool.not_false, Bool.and_true, Bool.true_and, Bool.and_false, Bool.false_and, decide_true, decide_false, Option.bind_some, Option.bind_none]
        refine rest 0 (by rw [if_neg z]) _ (Fr_trans (Fr_iu rfl) (Fr_iu rfl)) (fun k hk => ?_) ?_ ?_ ?_ (fun i hi hi6 => ?_) (fun i hi => ?_)
        · rw [iu_ne (by omega), iu_ne (by omega)]
        · rw [iu_ne (by omega), iu_ne (by omega)]; exact r19
        · rw [iu_ne (by omega), iu_at]
        · rw [iu_at]
        · rw [iu_ne (by omega), iu_ne (by omega), iu_ne (by omega), iu_ne (by omega)]
          exact ⟨rfl, rfl⟩
        · rw [iu_ne (by omega), iu_ne (by omega)]
  rw [q_M_nightGoes_eq, W]
  simp (disch := omega) only [L_0, L_1, L_2, L_3, L_4, L_5, L_6, L_7, L_8, L_9, L_10, L_11, L_12, L_13, L_14, L_15, L_16, L_17, L_18, L_19, L_20, L_21, L_22, L_23, L_24, L_25, L_26, L_27, L_28, L_29, L_30, L_31, L_32, L_33, L_34, L_35, L_40, L_41, L_42, L_43, L_44, L_45, L_47, L_48, L_50, L_53, L_57, L_59, L_60, L_61, L_63, L_64, L_97, L_100, L_101, L_102, L_103, L_122, L_130, L_216, L_255, L_364, L_400, L_402, L_420, L_728, L_768, L_999, L_1000, L_1093, L_1872, L_2000, L_9999, L_12345, L_252645135, L_858993459, L_1103515245, L_1431655765, Lm_1, Lm_2, Lm_8, N_zero, N_cast, N_add, N_mul, N_sub, N_addM, N_lt_tp, N_lt_fp, N_le_tp, N_le_fp, N_eq_tp, N_eq_fp, MN_ltp, MN_lep, NM_ltp, NM_lep, NM_eqp, MN_eqp, MM_lt_tp, MM_lt_fp, MM_le_tp, MM_le_fp, MM_eq_tp, MM_eq_fp, N_cl, N_in_t, N_in_f, M_in, N_div, N_rem, N_nb0, N_nb1, cond_true, cond_false, Bool.not_true, Bool.not_false, Bool.and_true, Bool.true_and, Bool.and_false, Bool.false_and, decide_true, decide_false, Option.bind_some, Option.bind_none, bl]
  have F1 : Fr [96] h (wb_iu (wb_iu h 96 0 16 (nN 1)) 96 0 17 (nN (tb w 0))) := Fr_trans (Fr_iu rfl) (Fr_iu rfl)
  have hM1 := MA_keep hA F1 (fun k hk => by rw [iu_ne (by omega), iu_ne (by omega)]) hM
  rw [M_wrongIn hA hM1 (fO_fr F1 rfl hO) wlt]
  simp (disch := omega) only [L_0, L_1, L_2, L_3, L_4, L_5, L_6, L_7, L_8, L_9, L_10, L_11, L_12, L_13, L_14, L_15, L_16, L_17, L_18, L_19, L_20, L_21, L_22, L_23, L_24, L_25, L_26, L_27, L_28, L_29, L_30, L_31, L_32, L_33, L_34, L_35, L_40, L_41, L_42, L_43, L_44, L_45, L_47, L_48, L_50, L_53, L_57, L_59, L_60, L_61, L_63, L_64, L_97, L_100, L_101, L_102, L_103, L_122, L_130, L_216, L_255, L_364, L_400, L_402, L_420, L_728, L_768, L_999, L_1000, L_1093, L_1872, L_2000, L_9999, L_12345, L_252645135, L_858993459, L_1103515245, L_1431655765, Lm_1, Lm_2, Lm_8, N_zero, N_cast, N_add, N_mul, N_sub, N_addM, N_lt_tp, N_lt_fp, N_le_tp, N_le_fp, N_eq_tp, N_eq_fp, MN_ltp, MN_lep, NM_ltp, NM_lep, NM_eqp, MN_eqp, MM_lt_tp, MM_lt_fp, MM_le_tp, MM_le_fp, MM_eq_tp, MM_eq_fp, N_cl, N_in_t, N_in_f, M_in, N_div, N_rem, N_nb0, N_nb1, cond_true, cond_false, Bool.not_true, Bool.not_false, Bool.and_true, Bool.true_and, Bool.and_false, Bool.false_and, decide_true, decide_false, Option.bind_some, Option.bind_none]
  refine key (an A) 0 (Nat.zero_add _) _ ⟨Fr_trans F1 (Fr_trans (Fr_iu rfl) (Fr_iu rfl)), fun k hk => ?_, ?_, ?_, ?_, ?_, fun i hi => absurd hi (Nat.not_lt_zero _), fun i _ hi6 => ?_⟩
  · rw [iu_ne (by omega), iu_ne (by omega), iu_ne (by omega), iu_ne (by omega)]
  · rw [iu_ne (by omega), iu_ne (by omega), iu_ne (by omega), iu_at]
  · rw [iu_ne (by omega), iu_ne (by omega), iu_at]
  · rw [iu_ne (by omega), iu_at]
  · rw [iu_at]; rfl
  · rw [iu_ne (by omega), iu_ne (by omega), iu_ne (by omega), iu_ne (by omega)]
end
