/-! The reference's evening: what it reads. -/
def sdI (s t k : Nat) : Prop := ((t = 78 ∨ t = 79) ∧ 6 * s ≤ k ∧ k < 6 * s + 6) ∨ (85 ≤ t ∧ t ≤ 89 ∧ 130 * s ≤ k ∧ k < 130 * s + 130) ∨ ((t = 90 ∨ t = 91) ∧ 420 * s ≤ k ∧ k < 420 * s + 420)
def Agl (s : Nat) (h h1 : wb_H) : Prop := ∀ t, wb_mem t [78, 79, 85, 86, 87, 88, 89, 90, 91] = true → ∀ k, sdI s t k → h1.1 t 0 k = h.1 t 0 k
def LM (h : wb_H) (s : Nat) (A : wa) : Prop := ∀ (sc : wb_X) (i sg b u d : Nat), i < an A → ahb A i = 6 → sg ≤ 1 → b + u ≤ 5 → b + u ≤ ase A i → d ≤ 2 → ∀ h1 : wb_H, Agl s h h1 →
  h1.1 93 0 0 = nN sg → h1.1 93 0 1 = nN b → h1.1 93 0 2 = nN u → h1.1 93 0 3 = nN (ase A i) → h1.1 93 0 4 = nN (asu A i) → h1.1 93 0 5 = nN i → h1.1 93 0 6 = (if d = 0 then nM 1 else nN (d - 1)) → h1.1 21 0 46 = nN 0 →
  Ok (q_M_lawOf_L131 sc h1 (nN (6 * s + i)) (h1.1 78 0 (6 * s + i))) (fun r => r.1 = nN (alw A i sg b u d) ∧ Fr [94, 1046] h1 r.2)
def MA (h : wb_H) (s l : Nat) (A : wa) : Prop :=
  s ≤ 1 ∧ h.1 21 0 18 = nN s ∧ h.1 73 0 s = nN (an A) ∧ h.1 80 0 s = nN (aB A) ∧ l < 64 ∧ h.1 96 0 12 = nN l ∧
  (∀ i, i < an A → h.1 96 0 i = nN (apl A i)) ∧ (∀ i, i < an A → h.1 75 0 (6 * s + i) = nN (ase A i)) ∧
  (∀ i, i < an A → tb l i = 1 → asu A i = 10 ∧ ahb A i = 0) ∧
  (∀ i, i < an A → tb l i ≠ 1 → h.1 74 0 (6 * s + i) = nN (asu A i) ∧ (h.1 96 0 (6 + i) = nN (ahb A i) ∨ (h.1 96 0 (6 + i) = nM 1 ∧ h.1 76 0 (6 * s + i) = nN (ahb A i)))) ∧
  (∀ i, i < an A → ahb A i = 3 → h.1 77 0 (6 * s + i) = nN (amo A i)) ∧ LM h s A
theorem Agl_trans {s : Nat} {h h1 h2 : wb_H} (a : Agl s h h1) (b : Agl s h1 h2) : Agl s h h2 := fun t ht k e => (b t ht k e).trans (a t ht k e)
theorem LM_agl {h h1 : wb_H} {s : Nat} {A : wa} (a : Agl s h h1) (hL : LM h s A) : LM h1 s A := fun sc i sg b u d h1 h2 h3 h4 h5 h6 g hg => hL sc i sg b u d h1 h2 h3 h4 h5 h6 g (Agl_trans a hg)
def wb_dj : List Nat → List Nat → Bool
  | [], _ => true
  | x :: l, L => !wb_mem x L && wb_dj l L
theorem wb_dj_mem : ∀ {l L : List Nat}, wb_dj l L = true → ∀ {x : Nat}, wb_mem x l = true → wb_mem x L = false
  | [], _, _, _, hx => by cases hx
  | y :: l, L, h, x, hx => by
    simp only [wb_dj, Bool.and_eq_true, Bool.not_eq_true'] at h
    rw [wb_mem] at hx
    cases e : Nat.beq x y with
    | true => rw [Nat.eq_of_beq_eq_true e]; exact h.1
    | false => rw [e] at hx; exact wb_dj_mem h.2 hx
theorem kc_id {t : Nat} (h : wb_mem t [21, 20, 11, 16, 18, 19, 10, 12, 14] = false) (k : Nat) : kc t k = t := by
  unfold kc
  split <;> first | rfl | (exfalso; revert h; decide)
theorem Agl_kc : ∀ t, wb_mem t [78, 79, 85, 86, 87, 88, 89, 90, 91] = true → ∀ k, kc t k = t := by
  intro t ht k
  refine kc_id ?_ k
  simp only [wb_mem, Bool.cond_eq_ite, Nat.beq_eq, ite_eq_left_iff, Bool.false_eq_true] at ht ⊢
  by_cases h0 : t < 78
  · exfalso; simp at ht; omega
  · simp; omega
theorem Agl_fr {s : Nat} {L : List Nat} {h h1 : wb_H} (a : Fr L h h1) (d : wb_dj [78, 79, 85, 86, 87, 88, 89, 90, 91] L = true) : Agl s h h1 := fun t ht k _ => Fr_i a (by rw [Agl_kc t ht k]; exact wb_dj_mem d ht)
theorem MA_fr {L : List Nat} {h h1 : wb_H} {s l : Nat} {A : wa} (a : Fr L h h1) (d : wb_dj [78, 79, 85, 86, 87, 88, 89, 90, 91, 1018, 73, 74, 75, 76, 77, 80, 96] L = true) (hM : MA h s l A) : MA h1 s l A := by
  have g : ∀ x, wb_mem x [78, 79, 85, 86, 87, 88, 89, 90, 91, 1018, 73, 74, 75, 76, 77, 80, 96] = true → wb_mem x L = false := fun x hx => wb_dj_mem d hx
  obtain ⟨a1, a2, a3, a4, a5, a6, a7, a8, a9, a10, a11, a12⟩ := hM
  refine ⟨a1, (Fr_i a (by exact g 1018 rfl)).trans a2, (Fr_i a (by exact g 73 rfl)).trans a3, (Fr_i a (by exact g 80 rfl)).trans a4, a5, (Fr_i a (by exact g 96 rfl)).trans a6, fun i hi => (Fr_i a (by exact g 96 rfl)).trans (a7 i hi), fun i hi => (Fr_i a (by exact g 75 rfl)).trans (a8 i hi), a9, fun i hi q => ?_, fun i hi q => (Fr_i a (by exact g 77 rfl)).trans (a11 i hi q), LM_agl (Agl_fr a ?_) a12⟩
  · obtain ⟨b1, b2⟩ := a10 i hi q
    refine ⟨(Fr_i a (by exact g 74 rfl)).trans b1, ?_⟩
    rcases b2 with b2 | ⟨b2, b3⟩
    · exact Or.inl ((Fr_i a (by exact g 96 rfl)).trans b2)
    · exact Or.inr ⟨(Fr_i a (by exact g 96 rfl)).trans b2, (Fr_i a (by exact g 76 rfl)).trans b3⟩
  · simp only [wb_dj, Bool.and_eq_true] at d ⊢
    exact ⟨d.1, d.2.1, d.2.2.1, d.2.2.2.1, d.2.2.2.2.1, d.2.2.2.2.2.1, d.2.2.2.2.2.2.1, d.2.2.2.2.2.2.2.1, d.2.2.2.2.2.2.2.2.1, trivial⟩
theorem N01 {n : Nat} (h : n < 2) : n = 0 ∨ n = 1 := by omega
section
variable {sc : wb_X} {h : wb_H} {s l : Nat} {A : wa}
theorem M_hasLeaflet (hM : MA h s l A) {i : Nat} (hi : i < 6) : q_M_hasLeaflet sc h (nN i) = some (nN (tb l i), h) := by
  obtain ⟨a1, a2, a3, a4, a5, a6, -⟩ := hM
  rw [q_M_hasLeaflet_eq]
  simp (disch := omega) only [L_0, L_1, L_2, L_3, L_4, L_5, L_6, L_7, L_8, L_9, L_10, L_11, L_12, L_13, L_14, L_15, L_16, L_17, L_18, L_19, L_20, L_21, L_22, L_23, L_24, L_25, L_26, L_27, L_28, L_29, L_30, L_31, L_32, L_33, L_34, L_35, L_40, L_41, L_42, L_43, L_44, L_45, L_47, L_48, L_50, L_53, L_57, L_59, L_60, L_61, L_63, L_64, L_97, L_100, L_101, L_102, L_103, L_122, L_130, L_216, L_255, L_364, L_400, L_402, L_420, L_728, L_768, L_999, L_1000, L_1093, L_1872, L_2000, L_9999, L_12345, L_252645135, L_858993459, L_1103515245, L_1431655765, Lm_1, Lm_2, Lm_8, N_zero, N_cast, N_add, N_mul, N_sub, N_addM, N_lt_tp, N_lt_fp, N_le_tp, N_le_fp, N_eq_tp, N_eq_fp, MN_ltp, MN_lep, NM_ltp, NM_lep, NM_eqp, MN_eqp, MM_lt_tp, MM_lt_fp, MM_le_tp, MM_le_fp, MM_eq_tp, MM_eq_fp, N_cl, N_in_t, N_in_f, M_in, N_div, N_rem, N_nb0, N_nb1, cond_true, cond_false, Bool.not_true, Bool.not_false, Bool.and_true, Bool.true_and, Bool.and_false, Bool.false_and, decide_true, decide_false, Option.bind_some, Option.bind_none, a6, bt_get l a5 i hi]
  rcases N01 (tb_lt l i) with e | e <;> rw [e] <;> rfl
theorem M_sureNow (hA : wa_ok A) (hM : MA h s l A) {i : Nat} (hi : i < an A) : q_M_sureNow sc h (nN i) = some (nN (asu A i), h) := by
  have h6 := hA.1
  rw [q_M_sureNow_eq, M_hasLeaflet hM (by omega)]
  obtain ⟨a1, a2, a3, a4, a5, a6, a7, a8, a9, a10, a11, a12⟩ := hM
  rcases N01 (tb_lt l i) with e | e <;> rw [e]
  · have f := (a10 i hi (by omega)).1
    simp (disch := omega) only [L_0, L_1, L_2, L_3, L_4, L_5, L_6, L_7, L_8, L_9, L_10, L_11, L_12, L_13, L_14, L_15, L_16, L_17, L_18, L_19, L_20, L_21, L_22, L_23, L_24, L_25, L_26, L_27, L_28, L_29, L_30, L_31, L_32, L_33, L_34, L_35, L_40, L_41, L_42, L_43, L_44, L_45, L_47, L_48, L_50, L_53, L_57, L_59, L_60, L_61, L_63, L_64, L_97, L_100, L_101, L_102, L_103, L_122, L_130, L_216, L_255, L_364, L_400, L_402, L_420, L_728, L_768, L_999, L_1000, L_1093, L_1872, L_2000, L_9999, L_12345, L_252645135, L_858993459, L_1103515245, L_1431655765, Lm_1, Lm_2, Lm_8, N_zero, N_cast, N_add, N_mul, N_sub, N_addM, N_lt_tp, N_lt_fp, N_le_tp, N_le_fp, N_eq_tp, N_eq_fp, MN_ltp, MN_lep, NM_ltp, NM_lep, NM_eqp, MN_eqp, MM_lt_tp, MM_lt_fp, MM_le_tp, MM_le_fp, MM_eq_tp, MM_eq_fp, N_cl, N_in_t, N_in_f, M_in, N_div, N_rem, N_nb0, N_nb1, cond_true, cond_false, Bool.not_true, Bool.not_false, Bool.and_true, Bool.true_and, Bool.and_false, Bool.false_and, decide_true, decide_false, Option.bind_some, Option.bind_none, a2, f]
  · rw [(a9 i hi e).1]
    simp (disch := omega) only [L_0, L_1, L_2, L_3, L_4, L_5, L_6, L_7, L_8, L_9, L_10, L_11, L_12, L_13, L_14, L_15, L_16, L_17, L_18, L_19, L_20, L_21, L_22, L_23, L_24, L_25, L_26, L_27, L_28, L_29, L_30, L_31, L_32, L_33, L_34, L_35, L_40, L_41, L_42, L_43, L_44, L_45, L_47, L_48, L_50, L_53, L_57, L_59, L_60, L_61, L_63, L_64, L_97, L_100, L_101, L_102, L_103, L_122, L_130, L_216, L_255, L_364, L_400, L_402, L_420, L_728, L_768, L_999, L_1000, L_1093, L_1872, L_2000, L_9999, L_12345, L_252645135, L_858993459, L_1103515245, L_1431655765, Lm_1, Lm_2, Lm_8, N_zero, N_cast, N_add, N_mul, N_sub, N_addM, N_lt_tp, N_lt_fp, N_le_tp, N_le_fp, N_eq_tp, N_eq_fp, MN_ltp, MN_lep, NM_ltp, NM_lep, NM_eqp, MN_eqp, MM_lt_tp, MM_lt_fp, MM_le_tp, MM_le_fp, MM_eq_tp, MM_eq_fp, N_cl, N_in_t, N_in_f, M_in, N_div, N_rem, N_nb0, N_nb1, cond_true, cond_false, Bool.not_true, Bool.not_false, Bool.and_true, Bool.true_and, Bool.and_false, Bool.false_and, decide_true, decide_false, Option.bind_some, Option.bind_none]
theorem M_habitNow (hA : wa_ok A) (hM : MA h s l A) {i : Nat} (hi : i < an A) : q_M_habitNow sc h (nN i) = some (nN (ahb A i), h) := by
  have h6 := hA.1
  have h7 := hA.2.2.2.2.2.1 i hi
  rw [q_M_habitNow_eq, M_hasLeaflet hM (by omega)]
  obtain ⟨a1, a2, a3, a4, a5, a6, a7, a8, a9, a10, a11, a12⟩ := hM
  rcases N01 (tb_lt l i) with e | e <;> rw [e]
  · rcases (a10 i hi (by omega)).2 with f | ⟨f, g⟩
    · simp (disch := omega) only [L_0, L_1, L_2, L_3, L_4, L_5, L_6, L_7, L_8, L_9, L_10, L_11, L_12, L_13, L_14, L_15, L_16, L_17, L_18, L_19, L_20, L_21, L_22, L_23, L_24, L_25, L_26, L_27, L_28, L_29, L_30, L_31, L_32, L_33, L_34, L_35, L_40, L_41, L_42, L_43, L_44, L_45, L_47, L_48, L_50, L_53, L_57, L_59, L_60, L_61, L_63, L_64, L_97, L_100, L_101, L_102, L_103, L_122, L_130, L_216, L_255, L_364, L_400, L_402, L_420, L_728, L_768, L_999, L_1000, L_1093, L_1872, L_2000, L_9999, L_12345, L_252645135, L_858993459, L_1103515245, L_1431655765, Lm_1, Lm_2, Lm_8, N_zero, N_cast, N_add, N_mul, N_sub, N_addM, N_lt_tp, N_lt_fp, N_le_tp, N_le_fp, N_eq_tp, N_eq_fp, MN_ltp, MN_lep, NM_ltp, NM_lep, NM_eqp, MN_eqp, MM_lt_tp, MM_lt_fp, MM_le_tp, MM_le_fp, MM_eq_tp, MM_eq_fp, N_cl, N_in_t, N_in_f, M_in, N_div, N_rem, N_nb0, N_nb1, cond_true, cond_false, Bool.not_true, Bool.not_false, Bool.and_true, Bool.true_and, Bool.and_false, Bool.false_and, decide_true, decide_false, Option.bind_some, Option.bind_none, a2, f]
    · simp (disch := omega) only [L_0, L_1, L_2, L_3, L_4, L_5, L_6, L_7, L_8, L_9, L_10, L_11, L_12, L_13, L_14, L_15, L_16, L_17, L_18, L_19, L_20, L_21, L_22, L_23, L_24, L_25, L_26, L_27, L_28, L_29, L_30, L_31, L_32, L_33, L_34, L_35, L_40, L_41, L_42, L_43, L_44, L_45, L_47, L_48, L_50, L_53, L_57, L_59, L_60, L_61, L_63, L_64, L_97, L_100, L_101, L_102, L_103, L_122, L_130, L_216, L_255, L_364, L_400, L_402, L_420, L_728, L_768, L_999, L_1000, L_1093, L_1872, L_2000, L_9999, L_12345, L_252645135, L_858993459, L_1103515245, L_1431655765, Lm_1, Lm_2, Lm_8, N_zero, N_cast, N_add, N_mul, N_sub, N_addM, N_lt_tp, N_lt_fp, N_le_tp, N_le_fp, N_eq_tp, N_eq_fp, MN_ltp, MN_lep, NM_ltp, NM_lep, NM_eqp, MN_eqp, MM_lt_tp, MM_lt_fp, MM_le_tp, MM_le_fp, MM_eq_tp, MM_eq_fp, N_cl, N_in_t, N_in_f, M_in, N_div, N_rem, N_nb0, N_nb1, cond_true, cond_false, Bool.not_true, Bool.not_false, Bool.and_true, Bool.true_and, Bool.and_false, Bool.false_and, decide_true, decide_false, Option.bind_some, Option.bind_none, a2, f, g]
  · rw [(a9 i hi e).2]
    simp (disch := omega) only [L_0, L_1, L_2, L_3, L_4, L_5, L_6, L_7, L_8, L_9, L_10, L_11, L_12, L_13, L_14, L_15, L_16, L_17, L_18, L_19, L_20, L_21, L_22, L_23, L_24, L_25, L_26, L_27, L_28, L_29, L_30, L_31, L_32, L_33, L_34, L_35, L_40, L_41, L_42, L_43, L_44, L_45, L_47, L_48, L_50, L_53, L_57, L_59, L_60, L_61, L_63, L_64, L_97, L_100, L_101, L_102, L_103, L_122, L_130, L_216, L_255, L_364, L_400, L_402, L_420, L_728, L_768, L_999, L_1000, L_1093, L_1872, L_2000, L_9999, L_12345, L_252645135, L_858993459, L_1103515245, L_1431655765, Lm_1, Lm_2, Lm_8, N_zero, N_cast, N_add, N_mul, N_sub, N_addM, N_lt_tp, N_lt_fp, N_le_tp, N_le_fp, N_eq_tp, N_eq_fp, MN_ltp, MN_lep, NM_ltp, NM_lep, NM_eqp, MN_eqp, MM_lt_tp, MM_lt_fp, MM_le_tp, MM_le_fp, MM_eq_tp, MM_eq_fp, N_cl, N_in_t, N_in_f, M_in, N_div, N_rem, N_nb0, N_nb1, cond_true, cond_false, Bool.not_true, Bool.not_false, Bool.and_true, Bool.true_and, Bool.and_false, Bool.false_and, decide_true, decide_false, Option.bind_some, Option.bind_none]
theorem M_plainOf {g : Nat} (hg : g ≤ 1) : q_M_plainOf sc h (nN g) = some (nN g, h) := by
  rw [q_M_plainOf_eq]
  rcases N01 (show g < 2 by omega) with e | e <;> rw [e] <;> rfl
theorem M_seenFrom (hA : wa_ok A) (hM : MA h s l A) {i : Nat} (hi : i < an A) : q_M_seenFrom sc h (nN i) = some (nN (apl A i - ase A i), h) := by
  have h6 := hA.1
  have h7 := hA.2.2.2.2.2.1 i hi
  have h8 := hA.2.2.1 i hi
  obtain ⟨a1, a2, a3, a4, a5, a6, a7, a8, a9, a10, a11, a12⟩ := hM
  rw [q_M_seenFrom_eq]
  have f1 := a7 i hi
  have f2 := a8 i hi
  by_cases q : ase A i ≤ apl A i
  · simp (disch := omega) only [L_0, L_1, L_2, L_3, L_4, L_5, L_6, L_7, L_8, L_9, L_10, L_11, L_12, L_13, L_14, L_15, L_16, L_17, L_18, L_19, L_20, L_21, L_22, L_23, L_24, L_25, L_26, L_27, L_28, L_29, L_30, L_31, L_32, L_33, L_34, L_35, L_40, L_41, L_42, L_43, L_44, L_45, L_47, L_48, L_50, L_53, L_57, L_59, L_60, L_61, L_63, L_64, L_97, L_100, L_101, L_102, L_103, L_122, L_130, L_216, L_255, L_364, L_400, L_402, L_420, L_728, L_768, L_999, L_1000, L_1093, L_1872, L_2000, L_9999, L_12345, L_252645135, L_858993459, L_1103515245, L_1431655765, Lm_1, Lm_2, Lm_8, N_zero, N_cast, N_add, N_mul, N_sub, N_addM, N_lt_tp, N_lt_fp, N_le_tp, N_le_fp, N_eq_tp, N_eq_fp, MN_ltp, MN_lep, NM_ltp, NM_lep, NM_eqp, MN_eqp, MM_lt_tp, MM_lt_fp, MM_le_tp, MM_le_fp, MM_eq_tp, MM_eq_fp, N_cl, N_in_t, N_in_f, M_in, N_div, N_rem, N_nb0, N_nb1, cond_true, cond_false, Bool.not_true, Bool.not_false, Bool.and_true, Bool.true_and, Bool.and_false, Bool.false_and, decide_true, decide_false, Option.bind_some, Option.bind_none, a2, f1, f2]
  · simp (disch := omega) only [L_0, L_1, L_2, L_3, L_4, L_5, L_6, L_7, L_8, L_9, L_10, L_11, L_12, L_13, L_14, L_15, L_16, L_17, L_18, L_19, L_20, L_21, L_22, L_23, L_24, L_25, L_26, L_27, L_28, L_29, L_30, L_31, L_32, L_33, L_34, L_35, L_40, L_41, L_42, L_43, L_44, L_45, L_47, L_48, L_50, L_53, L_57, L_59, L_60, L_61, L_63, L_64, L_97, L_100, L_101, L_102, L_103, L_122, L_130, L_216, L_255, L_364, L_400, L_402, L_420, L_728, L_768, L_999, L_1000, L_1093, L_1872, L_2000, L_9999, L_12345, L_252645135, L_858993459, L_1103515245, L_1431655765, Lm_1, Lm_2, Lm_8, N_zero, N_cast, N_add, N_mul, N_sub, N_addM, N_lt_tp, N_lt_fp, N_le_tp, N_le_fp, N_eq_tp, N_eq_fp, MN_ltp, MN_lep, NM_ltp, NM_lep, NM_eqp, MN_eqp, MM_lt_tp, MM_lt_fp, MM_le_tp, MM_le_fp, MM_eq_tp, MM_eq_fp, N_cl, N_in_t, N_in_f, M_in, N_div, N_rem, N_nb0, N_nb1, cond_true, cond_false, Bool.not_true, Bool.not_false, Bool.and_true, Bool.true_and, Bool.and_false, Bool.false_and, decide_true, decide_false, Option.bind_some, Option.bind_none, a2, f1, f2, N_sub_M]
    rw [show apl A i - ase A i = 0 by omega]
theorem M_signIn {i w : Nat} (hi : i < 6) (hw : w < 128) : q_M_signIn sc h (nN i) (nN w) = some (nN (sg w i), h) := by
  rw [q_M_signIn_eq]
  simp only [L_0, L_1, L_2, L_3, L_4, L_5, L_6, L_7, L_8, L_9, L_10, L_11, L_12, L_13, L_14, L_15, L_16, L_17, L_18, L_19, L_20, L_21, L_22, L_23, L_24, L_25, L_26, L_27, L_28, L_29, L_30, L_31, L_32, L_33, L_34, L_35, L_40, L_41, L_42, L_43, L_44, L_45, L_47, L_48, L_50, L_53, L_57, L_59, L_60, L_61, L_63, L_64, L_97, L_100, L_101, L_102, L_103, L_122, L_130, L_216, L_255, L_364, L_400, L_402, L_420, L_728, L_768, L_999, L_1000, L_1093, L_1872, L_2000, L_9999, L_12345, L_252645135, L_858993459, L_1103515245, L_1431655765, Lm_1, Lm_2, Lm_8, N_add]
  rw [bt_shr w hw (1 + i) (by omega), bt_low w hw]
  unfold sg
  rcases N01 (tb_lt w (1 + i)) with e | e <;> rcases N01 (tb_lt w 0) with f | f <;> rw [e, f] <;> rfl
theorem M_worlds (hA : wa_ok A) (hM : MA h s l A) : q_M_worlds sc h = some (nN (nw A), h) := by
  have h6 := hA.1
  obtain ⟨a1, a2, a3, -⟩ := hM
  rw [q_M_worlds_eq]
  simp (disch := omega) only [L_0, L_1, L_2, L_3, L_4, L_5, L_6, L_7, L_8, L_9, L_10, L_11, L_12, L_13, L_14, L_15, L_16, L_17, L_18, L_19, L_20, L_21, L_22, L_23, L_24, L_25, L_26, L_27, L_28, L_29, L_30, L_31, L_32, L_33, L_34, L_35, L_40, L_41, L_42, L_43, L_44, L_45, L_47, L_48, L_50, L_53, L_57, L_59, L_60, L_61, L_63, L_64, L_97, L_100, L_101, L_102, L_103, L_122, L_130, L_216, L_255, L_364, L_400, L_402, L_420, L_728, L_768, L_999, L_1000, L_1093, L_1872, L_2000, L_9999, L_12345, L_252645135, L_858993459, L_1103515245, L_1431655765, Lm_1, Lm_2, Lm_8, N_zero, N_cast, N_add, N_mul, N_sub, N_addM, N_lt_tp, N_lt_fp, N_le_tp, N_le_fp, N_eq_tp, N_eq_fp, MN_ltp, MN_lep, NM_ltp, NM_lep, NM_eqp, MN_eqp, MM_lt_tp, MM_lt_fp, MM_le_tp, MM_le_fp, MM_eq_tp, MM_eq_fp, N_cl, N_in_t, N_in_f, M_in, N_div, N_rem, N_nb0, N_nb1, cond_true, cond_false, Bool.not_true, Bool.not_false, Bool.and_true, Bool.true_and, Bool.and_false, Bool.false_and, decide_true, decide_false, Option.bind_some, Option.bind_none, a2, a3, bt_two _ (show an A < 7 by omega)]
  rfl
theorem nw_le (hA : wa_ok A) : nw A ≤ 128 := Nat.pow_le_pow_right (n := 2) (by decide) (show an A + 1 ≤ 7 by have := hA.1; omega)
/-- what is seen: the bins of a kind from a place on -/
def sq (r m k b : Nat) : Nat := sm k (fun q => if dg r (m + q) = b then 1 else 0)
theorem sq_le (r m k b : Nat) : sq r m k b ≤ k := by
  unfold sq
  induction k with
  | zero => exact Nat.le_refl _
  | succ k ih => rw [sm]; split <;> omega
theorem dg_le (r q : Nat) : dg r q ≤ 2 := by unfold dg; omega
theorem M_seenOf_L (hA : wa_ok A) (hM : MA h s l A) {i b r m : Nat} (hi : i < an A) (hb : b ≤ 2) (hr : ∀ p, p < 6 → h.1 99 0 p = nN (dg r p)) : ∀ k j, m + j + k = apl A i → q_M_seenOf_L9 sc h (nN i) (nN b) (nN (sq r m j b)) (nN (m + j)) = some (nN (sq r m (j + k) b), h) := by
  have h6 := hA.1
  have h8 := hA.2.2.1 i hi
  have f1 := hM.2.2.2.2.2.2.1 i hi
  intro k
  induction k with
  | zero =>
    intro j hj
    rw [q_M_seenOf_L9_eq]
    simp (disch := omega) only [L_0, L_1, L_2, L_3, L_4, L_5, L_6, L_7, L_8, L_9, L_10, L_11, L_12, L_13, L_14, L_15, L_16, L_17, L_18, L_19, L_20, L_21, L_22, L_23, L_24, L_25, L_26, L_27, L_28, L_29, L_30, L_31, L_32, L_33, L_34, L_35, L_40, L_41, L_42, L_43, L_44, L_45, L_47, L_48, L_50, L_53, L_57, L_59, L_60, L_61, L_63, L_64, L_97, L_100, L_101, L_102, L_103, L_122, L_130, L_216, L_255, L_364, L_400, L_402, L_420, L_728, L_768, L_999, L_1000, L_1093, L_1872, L_2000, L_9999, L_12345, L_252645135, L_858993459, L_1103515245, L_1431655765, Lm_1, Lm_2, Lm_8, N_zero, N_cast, N_add, N_mul, N_sub, N_addM, N_lt_tp, N_lt_fp, N_le_tp, N_le_fp, N_eq_tp, N_eq_fp, MN_ltp, MN_lep, NM_ltp, NM_lep, NM_eqp, MN_eqp, MM_lt_tp, MM_lt_fp, MM_le_tp, MM_le_fp, MM_eq_tp, MM_eq_fp, N_cl, N_in_t, N_in_f, M_in, N_div, N_rem, N_nb0, N_nb1, cond_true, cond_false, Bool.not_true, Bool.not_false, Bool.and_true, Bool.true_and, Bool.and_false, Bool.false_and, decide_true, decide_false, Option.bind_some, Option.bind_none, f1]
    rfl
  | succ k ih =>
    intro j hj
    have f2 := hr (m + j) (by omega)
    have f3 := dg_le r (m + j)
    have f4 := sq_le r m j b
    have ih2 := ih (j + 1) (by omega)
    have e1 : sq r m (j + 1) b = sq r m j b + if dg r (m + j) = b then 1 else 0 := rfl
    rw [show j + 1 + k = j + (k + 1) by omega, show m + (j + 1) = m + j + 1 by omega, e1] at ih2
    rw [q_M_seenOf_L9_eq]
    by_cases q : dg r (m + j) = b
    · rw [if_pos q] at ih2
      simp (disch := omega) only [L_0, L_1, L_2, L_3, L_4, L_5, L_6, L_7, L_8, L_9, L_10, L_11, L_12, L_13, L_14, L_15, L_16, L_17, L_18, L_19, L_20, L_21, L_22, L_23, L_24, L_25, L_26, L_27, L_28, L_29, L_30, L_31, L_32, L_33, L_34, L_35, L_40, L_41, L_42, L_43, L_44, L_45, L_47, L_48, L_50, L_53, L_57, L_59, L_60, L_61, L_63, L_64, L_97, L_100, L_101, L_102, L_103, L_122, L_130, L_216, L_255, L_364, L_400, L_402, L_420, L_728, L_768, L_999, L_1000, L_1093, L_1872, L_2000, L_9999, L_12345, L_252645135, L_858993459, L_1103515245, L_1431655765, Lm_1, Lm_2, Lm_8, N_zero, N_cast, N_add, N_mul, N_sub, N_addM, N_lt_tp, N_lt_fp, N_le_tp, N_le_fp, N_eq_tp, N_eq_fp, MN_ltp, MN_lep, NM_ltp, NM_lep, NM_eqp, MN_eqp, MM_lt_tp, MM_lt_fp, MM_le_tp, MM_le_fp, MM_eq_tp, MM_eq_fp, N_cl, N_in_t, N_in_f, M_in, N_div, N_rem, N_nb0, N_nb1, cond_true, cond_false, Bool.not_true, Bool.not_false, Bool.and_true, Bool.true_and, Bool.and_false, Bool.false_and, decide_true, decide_false, Option.bind_some, Option.bind_none, f1, f2]
      exact ih2
    · rw [if_neg q] at ih2
      simp (disch := omega) only [L_0, L_1, L_2, L_3, L_4, L_5, L_6, L_7, L_8, L_9, L_10, L_11, L_12, L_13, L_14, L_15, L_16, L_17, L_18, L_19, L_20, L_21, L_22, L_23, L_24, L_25, L_26, L_27, L_28, L_29, L_30, L_31, L_32, L_33, L_34, L_35, L_40, L_41, L_42, L_43, L_44, L_45, L_47, L_48, L_50, L_53, L_57, L_59, L_60, L_61, L_63, L_64, L_97, L_100, L_101, L_102, L_103, L_122, L_130, L_216, L_255, L_364, L_400, L_402, L_420, L_728, L_768, L_999, L_1000, L_1093, L_1872, L_2000, L_9999, L_12345, L_252645135, L_858993459, L_1103515245, L_1431655765, Lm_1, Lm_2, Lm_8, N_zero, N_cast, N_add, N_mul, N_sub, N_addM, N_lt_tp, N_lt_fp, N_le_tp, N_le_fp, N_eq_tp, N_eq_fp, MN_ltp, MN_lep, NM_ltp, NM_lep, NM_eqp, MN_eqp, MM_lt_tp, MM_lt_fp, MM_le_tp, MM_le_fp, MM_eq_tp, MM_eq_fp, N_cl, N_in_t, N_in_f, M_in, N_div, N_rem, N_nb0, N_nb1, cond_true, cond_false, Bool.not_true, Bool.not_false, Bool.and_true, Bool.true_and, Bool.and_false, Bool.false_and, decide_true, decide_false, Option.bind_some, Option.bind_none, f1, f2]
      exact ih2
theorem M_seenOf (hA : wa_ok A) (hM : MA h s l A) {i b r : Nat} (hi : i < an A) (hb : b ≤ 2) (hr : ∀ p, p < 6 → h.1 99 0 p = nN (dg r p)) : q_M_seenOf sc h (nN i) (nN b) = some (nN (sq r (apl A i - ase A i) (apl A i - (apl A i - ase A i)) b), h) := by
  rw [q_M_seenOf_eq, M_seenFrom hA hM hi]
  have := M_seenOf_L (sc := sc) hA hM hi hb hr (apl A i - (apl A i - ase A i)) 0 (m := apl A i - ase A i) (by omega)
  rw [Nat.zero_add] at this
  exact this
theorem M_mostOf (hA : wa_ok A) (hM : MA h s l A) {i r g : Nat} (hi : i < an A) (hg : g ≤ 1) (hr : ∀ p, p < 6 → h.1 99 0 p = nN (dg r p)) {u v : Nat} (hu : u = sq r (apl A i - ase A i) (apl A i - (apl A i - ase A i)) 1) (hv : v = sq r (apl A i - ase A i) (apl A i - (apl A i - ase A i)) 0) :
    q_M_mostOf sc h (nN i) (nN g) = some (nN (if u = v then g else if v < u then 1 else 0), h) := by
  have h6 := hA.1
  have h8 := hA.2.2.1 i hi
  have b1 := sq_le r (apl A i - ase A i) (apl A i - (apl A i - ase A i)) 1
  have b0 := sq_le r (apl A i - ase A i) (apl A i - (apl A i - ase A i)) 0
  rw [q_M_mostOf_eq]
  simp only [L_0, L_1, L_2, L_3, L_4, L_5, L_6, L_7, L_8, L_9, L_10, L_11, L_12, L_13, L_14, L_15, L_16, L_17, L_18, L_19, L_20, L_21, L_22, L_23, L_24, L_25, L_26, L_27, L_28, L_29, L_30, L_31, L_32, L_33, L_34, L_35, L_40, L_41, L_42, L_43, L_44, L_45, L_47, L_48, L_50, L_53, L_57, L_59, L_60, L_61, L_63, L_64, L_97, L_100, L_101, L_102, L_103, L_122, L_130, L_216, L_255, L_364, L_400, L_402, L_420, L_728, L_768, L_999, L_1000, L_1093, L_1872, L_2000, L_9999, L_12345, L_252645135, L_858993459, L_1103515245, L_1431655765, Lm_1, Lm_2, Lm_8]
  rw [M_seenOf hA hM hi (by decide) hr, Option.bind_some, M_seenOf hA hM hi (by decide) hr, Option.bind_some, ← hu, ← hv]
  rw [← hu] at b1
  rw [← hv] at b0
  by_cases q : u = v
  · rw [if_pos q]
    simp (disch := omega) only [L_0, L_1, L_2, L_3, L_4, L_5, L_6, L_7, L_8, L_9, L_10, L_11, L_12, L_13, L_14, L_15, L_16, L_17, L_18, L_19, L_20, L_21, L_22, L_23, L_24, L_25, L_26, L_27, L_28, L_29, L_30, L_31, L_32, L_33, L_34, L_35, L_40, L_41, L_42, L_43, L_44, L_45, L_47, L_48, L_50, L_53, L_57, L_59, L_60, L_61, L_63, L_64, L_97, L_100, L_101, L_102, L_103, L_122, L_130, L_216, L_255, L_364, L_400, L_402, L_420, L_728, L_768, L_999, L_1000, L_1093, L_1872, L_2000, L_9999, L_12345, L_252645135, L_858993459, L_1103515245, L_1431655765, Lm_1, Lm_2, Lm_8, N_zero, N_cast, N_add, N_mul, N_sub, N_addM, N_lt_tp, N_lt_fp, N_le_tp, N_le_fp, N_eq_tp, N_eq_fp, MN_ltp, MN_lep, NM_ltp, NM_lep, NM_eqp, MN_eqp, MM_lt_tp, MM_lt_fp, MM_le_tp, MM_le_fp, MM_eq_tp, MM_eq_fp, N_cl, N_in_t, N_in_f, M_in, N_div, N_rem, N_nb0, N_nb1, cond_true, cond_false, Bool.not_true, Bool.not_false, Bool.and_true, Bool.true_and, Bool.and_false, Bool.false_and, decide_true, decide_false, Option.bind_some, Option.bind_none, M_plainOf hg]
  · rw [if_neg q]
    by_cases q2 : v < u
    · rw [if_pos q2]; simp (disch := omega) only [L_0, L_1, L_2, L_3, L_4, L_5, L_6, L_7, L_8, L_9, L_10, L_11, L_12, L_13, L_14, L_15, L_16, L_17, L_18, L_19, L_20, L_21, L_22, L_23, L_24, L_25, L_26, L_27, L_28, L_29, L_30, L_31, L_32, L_33, L_34, L_35, L_40, L_41, L_42, L_43, L_44, L_45, L_47, L_48, L_50, L_53, L_57, L_59, L_60, L_61, L_63, L_64, L_97, L_100, L_101, L_102, L_103, L_122, L_130, L_216, L_255, L_364, L_400, L_402, L_420, L_728, L_768, L_999, L_1000, L_1093, L_1872, L_2000, L_9999, L_12345, L_252645135, L_858993459, L_1103515245, L_1431655765, Lm_1, Lm_2, Lm_8, N_zero, N_cast, N_add, N_mul, N_sub, N_addM, N_lt_tp, N_lt_fp, N_le_tp, N_le_fp, N_eq_tp, N_eq_fp, MN_ltp, MN_lep, NM_ltp, NM_lep, NM_eqp, MN_eqp, MM_lt_tp, MM_lt_fp, MM_le_tp, MM_le_fp, MM_eq_tp, MM_eq_fp, N_cl, N_in_t, N_in_f, M_in, N_div, N_rem, N_nb0, N_nb1, cond_true, cond_false, Bool.not_true, Bool.not_false, Bool.and_true, Bool.true_and, Bool.and_false, Bool.false_and, decide_true, decide_false, Option.bind_some, Option.bind_none]
    · rw [if_neg q2]; simp (disch := omega) only [L_0, L_1, L_2, L_3, L_4, L_5, L_6, L_7, L_8, L_9, L_10, L_11, L_12, L_13, L_14, L_15, L_16, L_17, L_18, L_19, L_20, L_21, L_22, L_23, L_24, L_25, L_26, L_27, L_28, L_29, L_30, L_31, L_32, L_33, L_34, L_35, L_40, L_41, L_42, L_43, L_44, L_45, L_47, L_48, L_50, L_53, L_57, L_59, L_60, L_61, L_63, L_64, L_97, L_100, L_101, L_102, L_103, L_122, L_130, L_216, L_255, L_364, L_400, L_402, L_420, L_728, L_768, L_999, L_1000, L_1093, L_1872, L_2000, L_9999, L_12345, L_252645135, L_858993459, L_1103515245, L_1431655765, Lm_1, Lm_2, Lm_8, N_zero, N_cast, N_add, N_mul, N_sub, N_addM, N_lt_tp, N_lt_fp, N_le_tp, N_le_fp, N_eq_tp, N_eq_fp, MN_ltp, MN_lep, NM_ltp, NM_lep, NM_eqp, MN_eqp, MM_lt_tp, MM_lt_fp, MM_le_tp, MM_le_fp, MM_eq_tp, MM_eq_fp, N_cl, N_in_t, N_in_f, M_in, N_div, N_rem, N_nb0, N_nb1, cond_true, cond_false, Bool.not_true, Bool.not_false, Bool.and_true, Bool.true_and, Bool.and_false, Bool.false_and, decide_true, decide_false, Option.bind_some, Option.bind_none]
theorem M_asOne (hA : wa_ok A) (hM : MA h s l A) {i r g p : Nat} (hi : i < an A) (hg : g ≤ 1) (hp : p < 6) (hr : ∀ p, p < 6 → h.1 99 0 p = nN (dg r p)) : q_M_asOne sc h (nN p) (nN i) (nN g) = some (nN (if apl A i ≤ p then g else one (dg r p) g), h) := by
  have h6 := hA.1
  have h8 := hA.2.2.1 i hi
  have f1 := hM.2.2.2.2.2.2.1 i hi
  have f2 := hr p hp
  have f3 := dg_le r p
  rw [q_M_asOne_eq]
  by_cases q : apl A i ≤ p
  · rw [if_pos q]
    simp (disch := omega) only [L_0, L_1, L_2, L_3, L_4, L_5, L_6, L_7, L_8, L_9, L_10, L_11, L_12, L_13, L_14, L_15, L_16, L_17, L_18, L_19, L_20, L_21, L_22, L_23, L_24, L_25, L_26, L_27, L_28, L_29, L_30, L_31, L_32, L_33, L_34, L_35, L_40, L_41, L_42, L_43, L_44, L_45, L_47, L_48, L_50, L_53, L_57, L_59, L_60, L_61, L_63, L_64, L_97, L_100, L_101, L_102, L_103, L_122, L_130, L_216, L_255, L_364, L_400, L_402, L_420, L_728, L_768, L_999, L_1000, L_1093, L_1872, L_2000, L_9999, L_12345, L_252645135, L_858993459, L_1103515245, L_1431655765, Lm_1, Lm_2, Lm_8, N_zero, N_cast, N_add, N_mul, N_sub, N_addM, N_lt_tp, N_lt_fp, N_le_tp, N_le_fp, N_eq_tp, N_eq_fp, MN_ltp, MN_lep, NM_ltp, NM_lep, NM_eqp, MN_eqp, MM_lt_tp, MM_lt_fp, MM_le_tp, MM_le_fp, MM_eq_tp, MM_eq_fp, N_cl, N_in_t, N_in_f, M_in, N_div, N_rem, N_nb0, N_nb1, cond_true, cond_false, Bool.not_true, Bool.not_false, Bool.and_true, Bool.true_and, Bool.and_false, Bool.false_and, decide_true, decide_false, Option.bind_some, Option.bind_none, f1, M_plainOf hg]
  · rw [if_neg q]
    unfold one
    by_cases q2 : dg r p = 2
    · rw [if_pos q2]
      simp (disch := omega) only [L_0, L_1, L_2, L_3, L_4, L_5, L_6, L_7, L_8, L_9, L_10, L_11, L_12, L_13, L_14, L_15, L_16, L_17, L_18, L_19, L_20, L_21, L_22, L_23, L_24, L_25, L_26, L_27, L_28, L_29, L_30, L_31, L_32, L_33, L_34, L_35, L_40, L_41, L_42, L_43, L_44, L_45, L_47, L_48, L_50, L_53, L_57, L_59, L_60, L_61, L_63, L_64, L_97, L_100, L_101, L_102, L_103, L_122, L_130, L_216, L_255, L_364, L_400, L_402, L_420, L_728, L_768, L_999, L_1000, L_1093, L_1872, L_2000, L_9999, L_12345, L_252645135, L_858993459, L_1103515245, L_1431655765, Lm_1, Lm_2, Lm_8, N_zero, N_cast, N_add, N_mul, N_sub, N_addM, N_lt_tp, N_lt_fp, N_le_tp, N_le_fp, N_eq_tp, N_eq_fp, MN_ltp, MN_lep, NM_ltp, NM_lep, NM_eqp, MN_eqp, MM_lt_tp, MM_lt_fp, MM_le_tp, MM_le_fp, MM_eq_tp, MM_eq_fp, N_cl, N_in_t, N_in_f, M_in, N_div, N_rem, N_nb0, N_nb1, cond_true, cond_false, Bool.not_true, Bool.not_false, Bool.and_true, Bool.true_and, Bool.and_false, Bool.false_and, decide_true, decide_false, Option.bind_some, Option.bind_none, f1, f2, M_plainOf hg]
    · rw [if_neg q2]
      simp (disch := omega) only [L_0, L_1, L_2, L_3, L_4, L_5, L_6, L_7, L_8, L_9, L_10, L_11, L_12, L_13, L_14, L_15, L_16, L_17, L_18, L_19, L_20, L_21, L_22, L_23, L_24, L_25, L_26, L_27, L_28, L_29, L_30, L_31, L_32, L_33, L_34, L_35, L_40, L_41, L_42, L_43, L_44, L_45, L_47, L_48, L_50, L_53, L_57, L_59, L_60, L_61, L_63, L_64, L_97, L_100, L_101, L_102, L_103, L_122, L_130, L_216, L_255, L_364, L_400, L_402, L_420, L_728, L_768, L_999, L_1000, L_1093, L_1872, L_2000, L_9999, L_12345, L_252645135, L_858993459, L_1103515245, L_1431655765, Lm_1, Lm_2, Lm_8, N_zero, N_cast, N_add, N_mul, N_sub, N_addM, N_lt_tp, N_lt_fp, N_le_tp, N_le_fp, N_eq_tp, N_eq_fp, MN_ltp, MN_lep, NM_ltp, NM_lep, NM_eqp, MN_eqp, MM_lt_tp, MM_lt_fp, MM_le_tp, MM_le_fp, MM_eq_tp, MM_eq_fp, N_cl, N_in_t, N_in_f, M_in, N_div, N_rem, N_nb0, N_nb1, cond_true, cond_false, Bool.not_true, Bool.not_false, Bool.and_true, Bool.true_and, Bool.and_false, Bool.false_and, decide_true, decide_false, Option.bind_some, Option.bind_none, f1, f2]
theorem M_isSeenAlike_L (hA : wa_ok A) (hM : MA h s l A) {i w r x : Nat} (hi : i < an A) (hw : w < 128) (hr : ∀ p, p < 6 → h.1 99 0 p = nN (dg r p)) (hx : ∀ p, p < 6 → h.1 97 0 (6 * w + p) = nN (dg x p)) : ∀ k j, j + k = apl A i → q_M_isSeenAlike_L6 sc h (nN i) (nN w) (nN j) = some (nN (if ∀ q, q < apl A i → j ≤ q → dg x q = dg r q then 1 else 0), h) := by
  have h6 := hA.1
  have h8 := hA.2.2.1 i hi
  have f1 := hM.2.2.2.2.2.2.1 i hi
  intro k
  induction k with
  | zero =>
    intro j hj
    rw [q_M_isSeenAlike_L6_eq, if_pos (fun q _ _ => by omega)]
    simp (disch := omega) only [L_0, L_1, L_2, L_3, L_4, L_5, L_6, L_7, L_8, L_9, L_10, L_11, L_12, L_13, L_14, L_15, L_16, L_17, L_18, L_19, L_20, L_21, L_22, L_23, L_24, L_25, L_26, L_27, L_28, L_29, L_30, L_31, L_32, L_33, L_34, L_35, L_40, L_41, L_42, L_43, L_44, L_45, L_47, L_48, L_50, L_53, L_57, L_59, L_60, L_61, L_63, L_64, L_97, L_100, L_101, L_102, L_103, L_122, L_130, L_216, L_255, L_364, L_400, L_402, L_420, L_728, L_768, L_999, L_1000, L_1093, L_1872, L_2000, L_9999, L_12345, L_252645135, L_858993459, L_1103515245, L_1431655765, Lm_1, Lm_2, Lm_8, N_zero, N_cast, N_add, N_mul, N_sub, N_addM, N_lt_tp, N_lt_fp, N_le_tp, N_le_fp, N_eq_tp, N_eq_fp, MN_ltp, MN_lep, NM_ltp, NM_lep, NM_eqp, MN_eqp, MM_lt_tp, MM_lt_fp, MM_le_tp, MM_le_fp, MM_eq_tp, MM_eq_fp, N_cl, N_in_t, N_in_f, M_in, N_div, N_rem, N_nb0, N_nb1, cond_true, cond_false, Bool.not_true, Bool.not_false, Bool.and_true, Bool.true_and, Bool.and_false, Bool.false_and, decide_true, decide_false, Option.bind_some, Option.bind_none, f1]
  | succ k ih =>
    intro j hj
    have f2 := hr j (by omega)
    have f4 := hx j (by omega)
    have f3 := dg_le r j
    have f5 := dg_le x j
    have ih2 := ih (j + 1) (by omega)
    rw [q_M_isSeenAlike_L6_eq]
    by_cases q : dg x j = dg r j
    · have e : (∀ q, q < apl A i → j ≤ q → dg x q = dg r q) ↔ (∀ q, q < apl A i → j + 1 ≤ q → dg x q = dg r q) := by
        constructor
        · intro a b c d; exact a b c (by omega)
        · intro a b c d
          by_cases t : b = j
          · rw [t]; exact q
          · exact a b c (by omega)
      simp (disch := omega) only [L_0, L_1, L_2, L_3, L_4, L_5, L_6, L_7, L_8, L_9, L_10, L_11, L_12, L_13, L_14, L_15, L_16, L_17, L_18, L_19, L_20, L_21, L_22, L_23, L_24, L_25, L_26, L_27, L_28, L_29, L_30, L_31, L_32, L_33, L_34, L_35, L_40, L_41, L_42, L_43, L_44, L_45, L_47, L_48, L_50, L_53, L_57, L_59, L_60, L_61, L_63, L_64, L_97, L_100, L_101, L_102, L_103, L_122, L_130, L_216, L_255, L_364, L_400, L_402, L_420, L_728, L_768, L_999, L_1000, L_1093, L_1872, L_2000, L_9999, L_12345, L_252645135, L_858993459, L_1103515245, L_1431655765, Lm_1, Lm_2, Lm_8, N_zero, N_cast, N_add, N_mul, N_sub, N_addM, N_lt_tp, N_lt_fp, N_le_tp, N_le_fp, N_eq_tp, N_eq_fp, MN_ltp, MN_lep, NM_ltp, NM_lep, NM_eqp, MN_eqp, MM_lt_tp, MM_lt_fp, MM_le_tp, MM_le_fp, MM_eq_tp, MM_eq_fp, N_cl, N_in_t, N_in_f, M_in, N_div, N_rem, N_nb0, N_nb1, cond_true, cond_false, Bool.not_true, Bool.not_false, Bool.and_true, Bool.true_and, Bool.and_false, Bool.false_and, decide_true, decide_false, Option.bind_some, Option.bind_none, f1, f2, f4]
      rw [ih2]
      simp only [e]
    · rw [if_neg (fun a => q (a j (by omega) (Nat.le_refl _)))]
      simp (disch := omega) only [L_0, L_1, L_2, L_3, L_4, L_5, L_6, L_7, L_8, L_9, L_10, L_11, L_12, L_13, L_14, L_15, L_16, L_17, L_18, L_19, L_20, L_21, L_22, L_23, L_24, L_25, L_26, L_27, L_28, L_29, L_30, L_31, L_32, L_33, L_34, L_35, L_40, L_41, L_42, L_43, L_44, L_45, L_47, L_48, L_50, L_53, L_57, L_59, L_60, L_61, L_63, L_64, L_97, L_100, L_101, L_102, L_103, L_122, L_130, L_216, L_255, L_364, L_400, L_402, L_420, L_728, L_768, L_999, L_1000, L_1093, L_1872, L_2000, L_9999, L_12345, L_252645135, L_858993459, L_1103515245, L_1431655765, Lm_1, Lm_2, Lm_8, N_zero, N_cast, N_add, N_mul, N_sub, N_addM, N_lt_tp, N_lt_fp, N_le_tp, N_le_fp, N_eq_tp, N_eq_fp, MN_ltp, MN_lep, NM_ltp, NM_lep, NM_eqp, MN_eqp, MM_lt_tp, MM_lt_fp, MM_le_tp, MM_le_fp, MM_eq_tp, MM_eq_fp, N_cl, N_in_t, N_in_f, M_in, N_div, N_rem, N_nb0, N_nb1, cond_true, cond_false, Bool.not_true, Bool.not_false, Bool.and_true, Bool.true_and, Bool.and_false, Bool.false_and, decide_true, decide_false, Option.bind_some, Option.bind_none, f1, f2, f4]
theorem M_isSeenAlike (hA : wa_ok A) (hM : MA h s l A) {i w r x : Nat} (hi : i < an A) (hw : w < 128) (hr : ∀ p, p < 6 → h.1 99 0 p = nN (dg r p)) (hx : ∀ p, p < 6 → h.1 97 0 (6 * w + p) = nN (dg x p)) : q_M_isSeenAlike sc h (nN i) (nN w) = some (nN (if ∀ q, q < apl A i → apl A i - ase A i ≤ q → dg x q = dg r q then 1 else 0), h) := by
  rw [q_M_isSeenAlike_eq, M_seenFrom hA hM hi, Option.bind_some]
  exact M_isSeenAlike_L hA hM hi hw hr hx (apl A i - (apl A i - ase A i)) _ (by omega)
end
