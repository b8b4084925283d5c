/-! whom, fewest. -/
def pc (s : Nat) : Nat := tb s 0 + tb s 1 + tb s 2 + tb s 3 + tb s 4 + tb s 5
theorem bt_andm : ∀ b, b < 64 → ∀ c, c < 64 → (nN b &&& (nN c ^^^ nM 1)) = nN (b &&& (63 ^^^ c)) := bt_andn
theorem sub_le : ∀ s, s < 64 → ∀ w, w < 64 → s &&& (63 ^^^ w) = 0 → s ≤ w := by decide +kernel
theorem sub_all : ∀ s, s < 64 → ∀ w, w < 64 → s &&& (63 ^^^ w) = 0 → pc s = pc w → s = w := by decide +kernel
theorem sub_ex : ∀ w, w < 64 → ∀ n, n < 7 → (decide (n ≤ pc w)) = (List.range 64).any (fun s => Nat.beq (s &&& (63 ^^^ w)) 0 && Nat.beq (pc s) n) := by decide +kernel
theorem all_or : ∀ n, n < 7 → ∀ l, l < 64 → l < 2 ^ n → l ||| ((2 ^ n - 1) &&& (63 ^^^ l)) = 2 ^ n - 1 := by decide +kernel
theorem all_tb : ∀ n, n < 7 → ∀ i, i < 6 → i < n → tb (2 ^ n - 1) i = 1 := by decide +kernel
theorem lt64 : ∀ s, s < 64 → ∀ w, w < 64 → s &&& (63 ^^^ w) < 64 := by decide +kernel
theorem pc_le : ∀ s, s < 64 → pc s ≤ 6 := by decide +kernel
def frL (T : wT) (R : wR) : Nat := (2 ^ tn T - 1) &&& (63 ^^^ rlf R)
def fM (T : wT) (R : wR) (set : Nat) : Nat := mnA (mkA T (rwith R (rlf R ||| set) 0)) 0
def gS (w n s : Nat) : Prop := s &&& (63 ^^^ w) = 0 ∧ pc s = n
noncomputable def blF (T : wT) (R : wR) (n : Nat) : Nat → Option Nat
  | 0 => none
  | k + 1 => @ite _ (gS (frL T R) n k) (Classical.propDecidable _) (match blF T R n k with | none => some k | some b => if fM T R k < fM T R b then some k else some b) (blF T R n k)
theorem blF_t {T : wT} {R : wR} {n k : Nat} (h : gS (frL T R) n k) : blF T R n (k + 1) = (match blF T R n k with | none => some k | some b => if fM T R k < fM T R b then some k else some b) := by rw [blF, if_pos h]
theorem blF_f {T : wT} {R : wR} {n k : Nat} (h : ¬ gS (frL T R) n k) : blF T R n (k + 1) = blF T R n k := by rw [blF, if_neg h]
theorem blF_some {T : wT} {R : wR} {n : Nat} : ∀ {k b : Nat}, blF T R n k = some b → b < k ∧ gS (frL T R) n b
  | 0, b, h => by cases h
  | k + 1, b, h => by
    by_cases g : gS (frL T R) n k
    · rw [blF_t g] at h
      cases hb : blF T R n k with
      | none =>
        rw [hb] at h
        cases h
        exact ⟨Nat.lt_succ_self _, g⟩
      | some c =>
        rw [hb] at h
        have ih := blF_some hb
        simp only at h
        split at h
        · cases h; exact ⟨Nat.lt_succ_self _, g⟩
        · cases h; exact ⟨by omega, ih.2⟩
    · rw [blF_f g] at h
      have ih := blF_some h
      exact ⟨by omega, ih.2⟩
theorem blF_none {T : wT} {R : wR} {n : Nat} : ∀ {k : Nat}, blF T R n k = none → ∀ s, s < k → ¬ gS (frL T R) n s
  | 0, _, s, hs => absurd hs (Nat.not_lt_zero _)
  | k + 1, h, s, hs => by
    by_cases g : gS (frL T R) n k
    · rw [blF_t g] at h
      cases hb : blF T R n k with
      | none => rw [hb] at h; cases h
      | some c =>
        rw [hb] at h
        simp only at h
        split at h <;> cases h
    · rw [blF_f g] at h
      by_cases e : s = k
      · rw [e]; exact g
      · exact blF_none h s (by omega)
section
variable {sc : wb_X} {B : Nat}
theorem X_bitCount (h : wb_H) : ∀ s, s < 64 → q_JInteger_bitCount sc h (nN s) = some (nN (pc s), h) := by
  intro s hs
  rw [q_JInteger_bitCount_eq]
  refine congrArg (fun x => some (x, h)) ?_
  revert s
  decide +kernel
theorem M_bits (h : wb_H) {s : Nat} (hs : s < 64) : q_M_bits sc h (nN s) = some (nN (pc s), h) := by
  have step : ∀ j c, j < 6 → q_M_bits_L4 sc h (nN s) (nN c) (nN j) = q_M_bits_L4 sc h (nN s) (nN (c + tb s j)) (nN (j + 1)) := by
    intro j c hj
    rw [q_M_bits_L4_eq]
    simp (disch := omega) only [L_0, L_1, L_2, L_3, L_4, L_5, L_6, L_7, L_8, L_9, L_10, L_11, L_12, L_13, L_14, L_15, L_16, L_17, L_18, L_19, L_20, L_21, L_22, L_23, L_24, L_25, L_26, L_27, L_28, L_29, L_30, L_31, L_32, L_33, L_34, L_35, L_40, L_41, L_42, L_43, L_44, L_45, L_47, L_48, L_50, L_53, L_57, L_59, L_60, L_61, L_63, L_64, L_97, L_100, L_101, L_102, L_103, L_122, L_130, L_216, L_255, L_364, L_400, L_402, L_420, L_728, L_768, L_999, L_1000, L_1093, L_1872, L_2000, L_9999, L_12345, L_252645135, L_858993459, L_1103515245, L_1431655765, Lm_1, Lm_2, Lm_8, N_zero, N_cast, N_add, N_mul, N_sub, N_addM, N_lt_tp, N_lt_fp, N_le_tp, N_le_fp, N_eq_tp, N_eq_fp, MN_ltp, MN_lep, NM_ltp, NM_lep, NM_eqp, MN_eqp, MM_lt_tp, MM_lt_fp, MM_le_tp, MM_le_fp, MM_eq_tp, MM_eq_fp, N_cl, N_in_t, N_in_f, M_in, N_div, N_rem, N_nb0, N_nb1, cond_true, cond_false, Bool.not_true, Bool.not_false, Bool.and_true, Bool.true_and, Bool.and_false, Bool.false_and, decide_true, decide_false, Option.bind_some, Option.bind_none, bt_get s hs j hj]
  have stop : ∀ c, q_M_bits_L4 sc h (nN s) (nN c) (nN 6) = some (nN c, h) := by
    intro c
    rw [q_M_bits_L4_eq]
    simp (disch := omega) only [L_0, L_1, L_2, L_3, L_4, L_5, L_6, L_7, L_8, L_9, L_10, L_11, L_12, L_13, L_14, L_15, L_16, L_17, L_18, L_19, L_20, L_21, L_22, L_23, L_24, L_25, L_26, L_27, L_28, L_29, L_30, L_31, L_32, L_33, L_34, L_35, L_40, L_41, L_42, L_43, L_44, L_45, L_47, L_48, L_50, L_53, L_57, L_59, L_60, L_61, L_63, L_64, L_97, L_100, L_101, L_102, L_103, L_122, L_130, L_216, L_255, L_364, L_400, L_402, L_420, L_728, L_768, L_999, L_1000, L_1093, L_1872, L_2000, L_9999, L_12345, L_252645135, L_858993459, L_1103515245, L_1431655765, Lm_1, Lm_2, Lm_8, N_zero, N_cast, N_add, N_mul, N_sub, N_addM, N_lt_tp, N_lt_fp, N_le_tp, N_le_fp, N_eq_tp, N_eq_fp, MN_ltp, MN_lep, NM_ltp, NM_lep, NM_eqp, MN_eqp, MM_lt_tp, MM_lt_fp, MM_le_tp, MM_le_fp, MM_eq_tp, MM_eq_fp, N_cl, N_in_t, N_in_f, M_in, N_div, N_rem, N_nb0, N_nb1, cond_true, cond_false, Bool.not_true, Bool.not_false, Bool.and_true, Bool.true_and, Bool.and_false, Bool.false_and, decide_true, decide_false, Option.bind_some, Option.bind_none]
  rw [q_M_bits_eq]
  simp only [L_0, L_1, L_2, L_3, L_4, L_5, L_6, L_7, L_8, L_9, L_10, L_11, L_12, L_13, L_14, L_15, L_16, L_17, L_18, L_19, L_20, L_21, L_22, L_23, L_24, L_25, L_26, L_27, L_28, L_29, L_30, L_31, L_32, L_33, L_34, L_35, L_40, L_41, L_42, L_43, L_44, L_45, L_47, L_48, L_50, L_53, L_57, L_59, L_60, L_61, L_63, L_64, L_97, L_100, L_101, L_102, L_103, L_122, L_130, L_216, L_255, L_364, L_400, L_402, L_420, L_728, L_768, L_999, L_1000, L_1093, L_1872, L_2000, L_9999, L_12345, L_252645135, L_858993459, L_1103515245, L_1431655765, Lm_1, Lm_2, Lm_8]
  rw [step 0 0 (by decide), step 1 _ (by decide), step 2 _ (by decide), step 3 _ (by decide), step 4 _ (by decide), step 5 _ (by decide), stop]
  unfold pc
  rw [Nat.zero_add]
theorem frL_lt {T : wT} {R : wR} (hT : T_ok T) : frL T R < 2 ^ tn T := by
  have : frL T R ≤ 2 ^ tn T - 1 := Nat.and_le_left
  have := Nat.pow_pos (n := tn T) (show 0 < 2 by decide)
  omega
theorem X_allHouses {h : wb_H} {T : wT} {R : wR} {v q s : Nat} (C : Core h T R v q s B) : q_X_allHouses sc h = some (nN (2 ^ tn T - 1), h) := by
  obtain ⟨e1, e2⟩ := X_ptr C
  have n6 := C.1.1
  have g1 : decide (0 < q + 1) = true := decide_eq_true (by omega)
  have g3 : decide (q < 2) = true := decide_eq_true e2
  have pp := Nat.pow_pos (n := tn T) (show 0 < 2 by decide)
  rw [q_X_allHouses_eq]
  simp (disch := omega) only [L_0, L_1, L_2, L_3, L_4, L_5, L_6, L_7, L_8, L_9, L_10, L_11, L_12, L_13, L_14, L_15, L_16, L_17, L_18, L_19, L_20, L_21, L_22, L_23, L_24, L_25, L_26, L_27, L_28, L_29, L_30, L_31, L_32, L_33, L_34, L_35, L_40, L_41, L_42, L_43, L_44, L_45, L_47, L_48, L_50, L_53, L_57, L_59, L_60, L_61, L_63, L_64, L_97, L_100, L_101, L_102, L_103, L_122, L_130, L_216, L_255, L_364, L_400, L_402, L_420, L_728, L_768, L_999, L_1000, L_1093, L_1872, L_2000, L_9999, L_12345, L_252645135, L_858993459, L_1103515245, L_1431655765, Lm_1, Lm_2, Lm_8, N_zero, N_cast, N_add, N_mul, N_sub, N_addM, N_lt_tp, N_lt_fp, N_le_tp, N_le_fp, N_eq_tp, N_eq_fp, MN_ltp, MN_lep, NM_ltp, NM_lep, NM_eqp, MN_eqp, MM_lt_tp, MM_lt_fp, MM_le_tp, MM_le_fp, MM_eq_tp, MM_eq_fp, N_cl, N_in_t, N_in_f, M_in, N_div, N_rem, N_nb0, N_nb1, cond_true, cond_false, Bool.not_true, Bool.not_false, Bool.and_true, Bool.true_and, Bool.and_false, Bool.false_and, decide_true, decide_false, Option.bind_some, Option.bind_none, e1, Nat.add_sub_cancel, g1, g3, C.2.2.2.1.2.1, bt_one (tn T) (show tn T < 7 by omega)]
theorem M_allHouses {h : wb_H} {T : wT} {R : wR} {v q s : Nat} (C : Core h T R v q s B) : q_M_allHouses sc h = some (nN (2 ^ tn T - 1), h) := by
  have n6 := C.1.1
  obtain ⟨a1, a2, a3, -⟩ := C.2.2.2.2.1
  have pp := Nat.pow_pos (n := tn T) (show 0 < 2 by decide)
  rw [q_M_allHouses_eq]
  simp (disch := omega) only [L_0, L_1, L_2, L_3, L_4, L_5, L_6, L_7, L_8, L_9, L_10, L_11, L_12, L_13, L_14, L_15, L_16, L_17, L_18, L_19, L_20, L_21, L_22, L_23, L_24, L_25, L_26, L_27, L_28, L_29, L_30, L_31, L_32, L_33, L_34, L_35, L_40, L_41, L_42, L_43, L_44, L_45, L_47, L_48, L_50, L_53, L_57, L_59, L_60, L_61, L_63, L_64, L_97, L_100, L_101, L_102, L_103, L_122, L_130, L_216, L_255, L_364, L_400, L_402, L_420, L_728, L_768, L_999, L_1000, L_1093, L_1872, L_2000, L_9999, L_12345, L_252645135, L_858993459, L_1103515245, L_1431655765, Lm_1, Lm_2, Lm_8, N_zero, N_cast, N_add, N_mul, N_sub, N_addM, N_lt_tp, N_lt_fp, N_le_tp, N_le_fp, N_eq_tp, N_eq_fp, MN_ltp, MN_lep, NM_ltp, NM_lep, NM_eqp, MN_eqp, MM_lt_tp, MM_lt_fp, MM_le_tp, MM_le_fp, MM_eq_tp, MM_eq_fp, N_cl, N_in_t, N_in_f, M_in, N_div, N_rem, N_nb0, N_nb1, cond_true, cond_false, Bool.not_true, Bool.not_false, Bool.and_true, Bool.true_and, Bool.and_false, Bool.false_and, decide_true, decide_false, Option.bind_some, Option.bind_none, a2, a3, bt_one (tn T) (show tn T < 7 by omega)]
def bcX : Option Nat → Int32
  | none => nM 1
  | some b => nN b
def bcM : Option Nat → Int32
  | none => nM 2
  | some b => nN b
theorem gS_lt {T : wT} {R : wR} (hT : T_ok T) {n k : Nat} (hk : k < 64) (g : gS (frL T R) n k) : k ≤ frL T R ∧ k < 2 ^ tn T := by
  have fl := frL_lt (R := R) hT
  have p64 := pow2_64 hT.1
  have := sub_le k hk (frL T R) (by omega) g.1
  exact ⟨this, by omega⟩
theorem X_bestLf {h : wb_H} {T : wT} {R : wR} {v q s : Nat} (C : Core h T R v q s B) (D : Cache h T R q) {n : Nat} (hn : n ≤ 6) : Ok (q_X_bestLeaflets sc h (nN n)) (fun r => r.1 = bcX (blF T R n (frL T R + 1)) ∧ Fr XQQ h r.2 ∧ Cache r.2 T R q) := by
  have n6 := C.1.1
  have p64 := pow2_64 n6
  have fl := frL_lt (R := R) C.1
  have rl := C.2.1.2.2.2.2
  have pp := Nat.pow_pos (n := tn T) (show 0 < 2 by decide)
  have key : ∀ r k, k + r = frL T R + 1 → ∀ h', Fr XQQ h h' → Cache h' T R q → Ok (q_X_bestLeaflets_L20 sc h' (nN n) (nN (frL T R)) (bcX (blF T R n k)) (nN k)) (fun r => r.1 = bcX (blF T R n (frL T R + 1)) ∧ Fr XQQ h r.2 ∧ Cache r.2 T R q) := by
    intro r
    induction r with
    | zero =>
      intro k hk h' F' D'
      rw [Nat.add_zero] at hk
      subst hk
      rw [q_X_bestLeaflets_L20_eq]
      simp (disch := omega) only [L_0, L_1, L_2, L_3, L_4, L_5, L_6, L_7, L_8, L_9, L_10, L_11, L_12, L_13, L_14, L_15, L_16, L_17, L_18, L_19, L_20, L_21, L_22, L_23, L_24, L_25, L_26, L_27, L_28, L_29, L_30, L_31, L_32, L_33, L_34, L_35, L_40, L_41, L_42, L_43, L_44, L_45, L_47, L_48, L_50, L_53, L_57, L_59, L_60, L_61, L_63, L_64, L_97, L_100, L_101, L_102, L_103, L_122, L_130, L_216, L_255, L_364, L_400, L_402, L_420, L_728, L_768, L_999, L_1000, L_1093, L_1872, L_2000, L_9999, L_12345, L_252645135, L_858993459, L_1103515245, L_1431655765, Lm_1, Lm_2, Lm_8, N_zero, N_cast, N_add, N_mul, N_sub, N_addM, N_lt_tp, N_lt_fp, N_le_tp, N_le_fp, N_eq_tp, N_eq_fp, MN_ltp, MN_lep, NM_ltp, NM_lep, NM_eqp, MN_eqp, MM_lt_tp, MM_lt_fp, MM_le_tp, MM_le_fp, MM_eq_tp, MM_eq_fp, N_cl, N_in_t, N_in_f, M_in, N_div, N_rem, N_nb0, N_nb1, cond_true, cond_false, Bool.not_true, Bool.not_false, Bool.and_true, Bool.true_and, Bool.and_false, Bool.false_and, decide_true, decide_false, Option.bind_some, Option.bind_none]
      exact Ok_some ⟨rfl, F', D'⟩
    | succ r ih =>
      intro k hk h' F' D'
      have C' := CoreX C F'
      have k64 : k < 64 := by omega
      have w64 : frL T R < 64 := by omega
      have l1 := lt64 k k64 (frL T R) w64
      have l2 := pc_le k k64
      rw [q_X_bestLeaflets_L20_eq]
      simp (disch := omega) only [L_0, L_1, L_2, L_3, L_4, L_5, L_6, L_7, L_8, L_9, L_10, L_11, L_12, L_13, L_14, L_15, L_16, L_17, L_18, L_19, L_20, L_21, L_22, L_23, L_24, L_25, L_26, L_27, L_28, L_29, L_30, L_31, L_32, L_33, L_34, L_35, L_40, L_41, L_42, L_43, L_44, L_45, L_47, L_48, L_50, L_53, L_57, L_59, L_60, L_61, L_63, L_64, L_97, L_100, L_101, L_102, L_103, L_122, L_130, L_216, L_255, L_364, L_400, L_402, L_420, L_728, L_768, L_999, L_1000, L_1093, L_1872, L_2000, L_9999, L_12345, L_252645135, L_858993459, L_1103515245, L_1431655765, Lm_1, Lm_2, Lm_8, N_zero, N_cast, N_add, N_mul, N_sub, N_addM, N_lt_tp, N_lt_fp, N_le_tp, N_le_fp, N_eq_tp, N_eq_fp, MN_ltp, MN_lep, NM_ltp, NM_lep, NM_eqp, MN_eqp, MM_lt_tp, MM_lt_fp, MM_le_tp, MM_le_fp, MM_eq_tp, MM_eq_fp, N_cl, N_in_t, N_in_f, M_in, N_div, N_rem, N_nb0, N_nb1, cond_true, cond_false, Bool.not_true, Bool.not_false, Bool.and_true, Bool.true_and, Bool.and_false, Bool.false_and, decide_true, decide_false, Option.bind_some, Option.bind_none, bt_andm k k64 (frL T R) w64]
      by_cases z1 : k &&& (63 ^^^ frL T R) = 0
      · rw [z1]
        simp (disch := omega) only [L_0, L_1, L_2, L_3, L_4, L_5, L_6, L_7, L_8, L_9, L_10, L_11, L_12, L_13, L_14, L_15, L_16, L_17, L_18, L_19, L_20, L_21, L_22, L_23, L_24, L_25, L_26, L_27, L_28, L_29, L_30, L_31, L_32, L_33, L_34, L_35, L_40, L_41, L_42, L_43, L_44, L_45, L_47, L_48, L_50, L_53, L_57, L_59, L_60, L_61, L_63, L_64, L_97, L_100, L_101, L_102, L_103, L_122, L_130, L_216, L_255, L_364, L_400, L_402, L_420, L_728, L_768, L_999, L_1000, L_1093, L_1872, L_2000, L_9999, L_12345, L_252645135, L_858993459, L_1103515245, L_1431655765, Lm_1, Lm_2, Lm_8, N_zero, N_cast, N_add, N_mul, N_sub, N_addM, N_lt_tp, N_lt_fp, N_le_tp, N_le_fp, N_eq_tp, N_eq_fp, MN_ltp, MN_lep, NM_ltp, NM_lep, NM_eqp, MN_eqp, MM_lt_tp, MM_lt_fp, MM_le_tp, MM_le_fp, MM_eq_tp, MM_eq_fp, N_cl, N_in_t, N_in_f, M_in, N_div, N_rem, N_nb0, N_nb1, cond_true, cond_false, Bool.not_true, Bool.not_false, Bool.and_true, Bool.true_and, Bool.and_false, Bool.false_and, decide_true, decide_false, Option.bind_some, Option.bind_none, X_bitCount h' k k64]
        by_cases z2 : pc k = n
        · have g : gS (frL T R) n k := ⟨z1, z2⟩
          have ih2 := ih (k + 1) (by omega)
          rw [blF_t g] at ih2
          cases hb : blF T R n k with
          | none =>
            rw [hb] at ih2
            simp (disch := omega) only [L_0, L_1, L_2, L_3, L_4, L_5, L_6, L_7, L_8, L_9, L_10, L_11, L_12, L_13, L_14, L_15, L_16, L_17, L_18, L_19, L_20, L_21, L_22, L_23, L_24, L_25, L_26, L_27, L_28, L_29, L_30, L_31, L_32, L_33, L_34, L_35, L_40, L_41, L_42, L_43, L_44, L_45, L_47, L_48, L_50, L_53, L_57, L_59, L_60, L_61, L_63, L_64, L_97, L_100, L_101, L_102, L_103, L_122, L_130, L_216, L_255, L_364, L_400, L_402, L_420, L_728, L_768, L_999, L_1000, L_1093, L_1872, L_2000, L_9999, L_12345, L_252645135, L_858993459, L_1103515245, L_1431655765, Lm_1, Lm_2, Lm_8, N_zero, N_cast, N_add, N_mul, N_sub, N_addM, N_lt_tp, N_lt_fp, N_le_tp, N_le_fp, N_eq_tp, N_eq_fp, MN_ltp, MN_lep, NM_ltp, NM_lep, NM_eqp, MN_eqp, MM_lt_tp, MM_lt_fp, MM_le_tp, MM_le_fp, MM_eq_tp, MM_eq_fp, N_cl, N_in_t, N_in_f, M_in, N_div, N_rem, N_nb0, N_nb1, cond_true, cond_false, Bool.not_true, Bool.not_false, Bool.and_true, Bool.true_and, Bool.and_false, Bool.false_and, decide_true, decide_false, Option.bind_some, Option.bind_none, bcX]
            exact ih2 h' F' D'
          | some b =>
            rw [hb] at ih2
            obtain ⟨b1, b2⟩ := blF_some hb
            have bl := gS_lt C.1 (by omega) b2
            have kl := gS_lt C.1 k64 g
            have l17 : h'.1 17 0 2 = nN (rlf R) := C'.2.2.2.2.2.2.2.1.1.2.2
            simp (disch := omega) only [L_0, L_1, L_2, L_3, L_4, L_5, L_6, L_7, L_8, L_9, L_10, L_11, L_12, L_13, L_14, L_15, L_16, L_17, L_18, L_19, L_20, L_21, L_22, L_23, L_24, L_25, L_26, L_27, L_28, L_29, L_30, L_31, L_32, L_33, L_34, L_35, L_40, L_41, L_42, L_43, L_44, L_45, L_47, L_48, L_50, L_53, L_57, L_59, L_60, L_61, L_63, L_64, L_97, L_100, L_101, L_102, L_103, L_122, L_130, L_216, L_255, L_364, L_400, L_402, L_420, L_728, L_768, L_999, L_1000, L_1093, L_1872, L_2000, L_9999, L_12345, L_252645135, L_858993459, L_1103515245, L_1431655765, Lm_1, Lm_2, Lm_8, N_zero, N_cast, N_add, N_mul, N_sub, N_addM, N_lt_tp, N_lt_fp, N_le_tp, N_le_fp, N_eq_tp, N_eq_fp, MN_ltp, MN_lep, NM_ltp, NM_lep, NM_eqp, MN_eqp, MM_lt_tp, MM_lt_fp, MM_le_tp, MM_le_fp, MM_eq_tp, MM_eq_fp, N_cl, N_in_t, N_in_f, M_in, N_div, N_rem, N_nb0, N_nb1, cond_true, cond_false, Bool.not_true, Bool.not_false, Bool.and_true, Bool.true_and, Bool.and_false, Bool.false_and, decide_true, decide_false, Option.bind_some, Option.bind_none, bcX, l17, bt_or2 (rlf R) (show rlf R < 64 by omega) k k64]
            refine Ok_bind (X_meanWith C' D' (Nat.or_lt_two_pow rl kl.2)) ?_
            rintro ⟨x, h1⟩ ⟨x1, F1, D1⟩
            simp only at x1 F1 D1 ⊢
            have C1 := CoreX C' F1
            have l17' : h1.1 17 0 2 = nN (rlf R) := C1.2.2.2.2.2.2.2.1.1.2.2
            rw [l17', bt_or2 (rlf R) (show rlf R < 64 by omega) b (by omega)]
            refine Ok_bind (X_meanWith C1 D1 (Nat.or_lt_two_pow rl bl.2)) ?_
            rintro ⟨y, h2⟩ ⟨y1, F2, D2⟩
            simp only at y1 F2 D2 ⊢
            have m1 := mnA_le (mkA_ok C.1 (rwith_ok C.2.1 (own := 0) (Nat.or_lt_two_pow rl kl.2))) 0
            have m2 := mnA_le (mkA_ok C.1 (rwith_ok C.2.1 (own := 0) (Nat.or_lt_two_pow rl bl.2))) 0
            have ih3 := ih2 h2 (Fr_trans F' (Fr_trans F1 F2)) D2
            rw [x1, y1]
            simp only at ih3
            unfold fM at ih3
            by_cases z3 : mnA (mkA T (rwith R (rlf R ||| k) 0)) 0 < mnA (mkA T (rwith R (rlf R ||| b) 0)) 0
            · rw [if_pos z3] at ih3
              rw [N_le_f z3 (by omega)]
              exact ih3
            · rw [if_neg z3] at ih3
              rw [N_le_t (by omega) (by omega)]
              exact ih3
        · have g : ¬ gS (frL T R) n k := fun y => z2 y.2
          have ih2 := ih (k + 1) (by omega) h' F' D'
          rw [blF_f g] at ih2
          simp (disch := omega) only [L_0, L_1, L_2, L_3, L_4, L_5, L_6, L_7, L_8, L_9, L_10, L_11, L_12, L_13, L_14, L_15, L_16, L_17, L_18, L_19, L_20, L_21, L_22, L_23, L_24, L_25, L_26, L_27, L_28, L_29, L_30, L_31, L_32, L_33, L_34, L_35, L_40, L_41, L_42, L_43, L_44, L_45, L_47, L_48, L_50, L_53, L_57, L_59, L_60, L_61, L_63, L_64, L_97, L_100, L_101, L_102, L_103, L_122, L_130, L_216, L_255, L_364, L_400, L_402, L_420, L_728, L_768, L_999, L_1000, L_1093, L_1872, L_2000, L_9999, L_12345, L_252645135, L_858993459, L_1103515245, L_1431655765, Lm_1, Lm_2, Lm_8, N_zero, N_cast, N_add, N_mul, N_sub, N_addM, N_lt_tp, N_lt_fp, N_le_tp, N_le_fp, N_eq_tp, N_eq_fp, MN_ltp, MN_lep, NM_ltp, NM_lep, NM_eqp, MN_eqp, MM_lt_tp, MM_lt_fp, MM_le_tp, MM_le_fp, MM_eq_tp, MM_eq_fp, N_cl, N_in_t, N_in_f, M_in, N_div, N_rem, N_nb0, N_nb1, cond_true, cond_false, Bool.not_true, Bool.not_false, Bool.and_true, Bool.true_and, Bool.and_false, Bool.false_and, decide_true, decide_false, Option.bind_some, Option.bind_none]
          exact ih2
      · have g : ¬ gS (frL T R) n k := fun y => z1 y.1
        have ih2 := ih (k + 1) (by omega) h' F' D'
        rw [blF_f g] at ih2
        simp (disch := omega) only [L_0, L_1, L_2, L_3, L_4, L_5, L_6, L_7, L_8, L_9, L_10, L_11, L_12, L_13, L_14, L_15, L_16, L_17, L_18, L_19, L_20, L_21, L_22, L_23, L_24, L_25, L_26, L_27, L_28, L_29, L_30, L_31, L_32, L_33, L_34, L_35, L_40, L_41, L_42, L_43, L_44, L_45, L_47, L_48, L_50, L_53, L_57, L_59, L_60, L_61, L_63, L_64, L_97, L_100, L_101, L_102, L_103, L_122, L_130, L_216, L_255, L_364, L_400, L_402, L_420, L_728, L_768, L_999, L_1000, L_1093, L_1872, L_2000, L_9999, L_12345, L_252645135, L_858993459, L_1103515245, L_1431655765, Lm_1, Lm_2, Lm_8, N_zero, N_cast, N_add, N_mul, N_sub, N_addM, N_lt_tp, N_lt_fp, N_le_tp, N_le_fp, N_eq_tp, N_eq_fp, MN_ltp, MN_lep, NM_ltp, NM_lep, NM_eqp, MN_eqp, MM_lt_tp, MM_lt_fp, MM_le_tp, MM_le_fp, MM_eq_tp, MM_eq_fp, N_cl, N_in_t, N_in_f, M_in, N_div, N_rem, N_nb0, N_nb1, cond_true, cond_false, Bool.not_true, Bool.not_false, Bool.and_true, Bool.true_and, Bool.and_false, Bool.false_and, decide_true, decide_false, Option.bind_some, Option.bind_none]
        exact ih2
  rw [q_X_bestLeaflets_eq, X_allHouses C]
  have l17 : h.1 17 0 2 = nN (rlf R) := C.2.2.2.2.2.2.2.1.1.2.2
  simp (disch := omega) only [L_0, L_1, L_2, L_3, L_4, L_5, L_6, L_7, L_8, L_9, L_10, L_11, L_12, L_13, L_14, L_15, L_16, L_17, L_18, L_19, L_20, L_21, L_22, L_23, L_24, L_25, L_26, L_27, L_28, L_29, L_30, L_31, L_32, L_33, L_34, L_35, L_40, L_41, L_42, L_43, L_44, L_45, L_47, L_48, L_50, L_53, L_57, L_59, L_60, L_61, L_63, L_64, L_97, L_100, L_101, L_102, L_103, L_122, L_130, L_216, L_255, L_364, L_400, L_402, L_420, L_728, L_768, L_999, L_1000, L_1093, L_1872, L_2000, L_9999, L_12345, L_252645135, L_858993459, L_1103515245, L_1431655765, Lm_1, Lm_2, Lm_8, N_zero, N_cast, N_add, N_mul, N_sub, N_addM, N_lt_tp, N_lt_fp, N_le_tp, N_le_fp, N_eq_tp, N_eq_fp, MN_ltp, MN_lep, NM_ltp, NM_lep, NM_eqp, MN_eqp, MM_lt_tp, MM_lt_fp, MM_le_tp, MM_le_fp, MM_eq_tp, MM_eq_fp, N_cl, N_in_t, N_in_f, M_in, N_div, N_rem, N_nb0, N_nb1, cond_true, cond_false, Bool.not_true, Bool.not_false, Bool.and_true, Bool.true_and, Bool.and_false, Bool.false_and, decide_true, decide_false, Option.bind_some, Option.bind_none, l17, bt_andm (2 ^ tn T - 1) (show 2 ^ tn T - 1 < 64 by omega) (rlf R) (show rlf R < 64 by omega)]
  exact key (frL T R + 1) 0 (Nat.zero_add _) h (Fr_refl _ _) D
theorem M_bestLf {h : wb_H} {T : wT} {R : wR} {v q s : Nat} (C : Core h T R v q s B) {n : Nat} (hn : n ≤ 6) : Ok (q_M_bestLeaflets sc h (nN n)) (fun r => r.1 = bcM (blF T R n (frL T R + 1)) ∧ Fr MQQ h r.2) := by
  have n6 := C.1.1
  have p64 := pow2_64 n6
  have fl := frL_lt (R := R) C.1
  have rl := C.2.1.2.2.2.2
  have pp := Nat.pow_pos (n := tn T) (show 0 < 2 by decide)
  have key : ∀ r k, k + r = frL T R + 1 → ∀ h' least, Fr MQQ h h' → (∀ b, blF T R n k = some b → least = nN (fM T R b)) → Ok (q_M_bestLeaflets_L24 sc h' (nN n) (nN (frL T R)) (bcM (blF T R n k)) least (nN k)) (fun r => r.1 = bcM (blF T R n (frL T R + 1)) ∧ Fr MQQ h r.2) := by
    intro r
    induction r with
    | zero =>
      intro k hk h' least F' hl
      rw [Nat.add_zero] at hk
      subst hk
      rw [q_M_bestLeaflets_L24_eq]
      simp (disch := omega) only [L_0, L_1, L_2, L_3, L_4, L_5, L_6, L_7, L_8, L_9, L_10, L_11, L_12, L_13, L_14, L_15, L_16, L_17, L_18, L_19, L_20, L_21, L_22, L_23, L_24, L_25, L_26, L_27, L_28, L_29, L_30, L_31, L_32, L_33, L_34, L_35, L_40, L_41, L_42, L_43, L_44, L_45, L_47, L_48, L_50, L_53, L_57, L_59, L_60, L_61, L_63, L_64, L_97, L_100, L_101, L_102, L_103, L_122, L_130, L_216, L_255, L_364, L_400, L_402, L_420, L_728, L_768, L_999, L_1000, L_1093, L_1872, L_2000, L_9999, L_12345, L_252645135, L_858993459, L_1103515245, L_1431655765, Lm_1, Lm_2, Lm_8, N_zero, N_cast, N_add, N_mul, N_sub, N_addM, N_lt_tp, N_lt_fp, N_le_tp, N_le_fp, N_eq_tp, N_eq_fp, MN_ltp, MN_lep, NM_ltp, NM_lep, NM_eqp, MN_eqp, MM_lt_tp, MM_lt_fp, MM_le_tp, MM_le_fp, MM_eq_tp, MM_eq_fp, N_cl, N_in_t, N_in_f, M_in, N_div, N_rem, N_nb0, N_nb1, cond_true, cond_false, Bool.not_true, Bool.not_false, Bool.and_true, Bool.true_and, Bool.and_false, Bool.false_and, decide_true, decide_false, Option.bind_some, Option.bind_none]
      exact Ok_some ⟨rfl, F'⟩
    | succ r ih =>
      intro k hk h' least F' hl
      have C' := CoreM C F'
      have k64 : k < 64 := by omega
      have w64 : frL T R < 64 := by omega
      have l1 := lt64 k k64 (frL T R) w64
      have l2 := pc_le k k64
      rw [q_M_bestLeaflets_L24_eq]
      simp (disch := omega) only [L_0, L_1, L_2, L_3, L_4, L_5, L_6, L_7, L_8, L_9, L_10, L_11, L_12, L_13, L_14, L_15, L_16, L_17, L_18, L_19, L_20, L_21, L_22, L_23, L_24, L_25, L_26, L_27, L_28, L_29, L_30, L_31, L_32, L_33, L_34, L_35, L_40, L_41, L_42, L_43, L_44, L_45, L_47, L_48, L_50, L_53, L_57, L_59, L_60, L_61, L_63, L_64, L_97, L_100, L_101, L_102, L_103, L_122, L_130, L_216, L_255, L_364, L_400, L_402, L_420, L_728, L_768, L_999, L_1000, L_1093, L_1872, L_2000, L_9999, L_12345, L_252645135, L_858993459, L_1103515245, L_1431655765, Lm_1, Lm_2, Lm_8, N_zero, N_cast, N_add, N_mul, N_sub, N_addM, N_lt_tp, N_lt_fp, N_le_tp, N_le_fp, N_eq_tp, N_eq_fp, MN_ltp, MN_lep, NM_ltp, NM_lep, NM_eqp, MN_eqp, MM_lt_tp, MM_lt_fp, MM_le_tp, MM_le_fp, MM_eq_tp, MM_eq_fp, N_cl, N_in_t, N_in_f, M_in, N_div, N_rem, N_nb0, N_nb1, cond_true, cond_false, Bool.not_true, Bool.not_false, Bool.and_true, Bool.true_and, Bool.and_false, Bool.false_and, decide_true, decide_false, Option.bind_some, Option.bind_none, bt_andm k k64 (frL T R) w64]
      by_cases z1 : k &&& (63 ^^^ frL T R) = 0
      · rw [z1]
        simp (disch := omega) only [L_0, L_1, L_2, L_3, L_4, L_5, L_6, L_7, L_8, L_9, L_10, L_11, L_12, L_13, L_14, L_15, L_16, L_17, L_18, L_19, L_20, L_21, L_22, L_23, L_24, L_25, L_26, L_27, L_28, L_29, L_30, L_31, L_32, L_33, L_34, L_35, L_40, L_41, L_42, L_43, L_44, L_45, L_47, L_48, L_50, L_53, L_57, L_59, L_60, L_61, L_63, L_64, L_97, L_100, L_101, L_102, L_103, L_122, L_130, L_216, L_255, L_364, L_400, L_402, L_420, L_728, L_768, L_999, L_1000, L_1093, L_1872, L_2000, L_9999, L_12345, L_252645135, L_858993459, L_1103515245, L_1431655765, Lm_1, Lm_2, Lm_8, N_zero, N_cast, N_add, N_mul, N_sub, N_addM, N_lt_tp, N_lt_fp, N_le_tp, N_le_fp, N_eq_tp, N_eq_fp, MN_ltp, MN_lep, NM_ltp, NM_lep, NM_eqp, MN_eqp, MM_lt_tp, MM_lt_fp, MM_le_tp, MM_le_fp, MM_eq_tp, MM_eq_fp, N_cl, N_in_t, N_in_f, M_in, N_div, N_rem, N_nb0, N_nb1, cond_true, cond_false, Bool.not_true, Bool.not_false, Bool.and_true, Bool.true_and, Bool.and_false, Bool.false_and, decide_true, decide_false, Option.bind_some, Option.bind_none, M_bits h' k64]
        by_cases z2 : pc k = n
        · have g : gS (frL T R) n k := ⟨z1, z2⟩
          have kl := gS_lt C.1 k64 g
          have m1 := mnA_le (mkA_ok C.1 (rwith_ok C.2.1 (own := 0) (Nat.or_lt_two_pow rl kl.2))) 0
          simp (disch := omega) only [L_0, L_1, L_2, L_3, L_4, L_5, L_6, L_7, L_8, L_9, L_10, L_11, L_12, L_13, L_14, L_15, L_16, L_17, L_18, L_19, L_20, L_21, L_22, L_23, L_24, L_25, L_26, L_27, L_28, L_29, L_30, L_31, L_32, L_33, L_34, L_35, L_40, L_41, L_42, L_43, L_44, L_45, L_47, L_48, L_50, L_53, L_57, L_59, L_60, L_61, L_63, L_64, L_97, L_100, L_101, L_102, L_103, L_122, L_130, L_216, L_255, L_364, L_400, L_402, L_420, L_728, L_768, L_999, L_1000, L_1093, L_1872, L_2000, L_9999, L_12345, L_252645135, L_858993459, L_1103515245, L_1431655765, Lm_1, Lm_2, Lm_8, N_zero, N_cast, N_add, N_mul, N_sub, N_addM, N_lt_tp, N_lt_fp, N_le_tp, N_le_fp, N_eq_tp, N_eq_fp, MN_ltp, MN_lep, NM_ltp, NM_lep, NM_eqp, MN_eqp, MM_lt_tp, MM_lt_fp, MM_le_tp, MM_le_fp, MM_eq_tp, MM_eq_fp, N_cl, N_in_t, N_in_f, M_in, N_div, N_rem, N_nb0, N_nb1, cond_true, cond_false, Bool.not_true, Bool.not_false, Bool.and_true, Bool.true_and, Bool.and_false, Bool.false_and, decide_true, decide_false, Option.bind_some, Option.bind_none]
          refine Ok_bind (M_meanWith C' kl.2) ?_
          rintro ⟨x, h1⟩ ⟨x1, F1⟩
          simp only at x1 F1 ⊢
          have ih2 := ih (k + 1) (by omega)
          rw [blF_t g] at ih2
          cases hb : blF T R n k with
          | none =>
            rw [hb] at ih2
            simp (disch := omega) only [L_0, L_1, L_2, L_3, L_4, L_5, L_6, L_7, L_8, L_9, L_10, L_11, L_12, L_13, L_14, L_15, L_16, L_17, L_18, L_19, L_20, L_21, L_22, L_23, L_24, L_25, L_26, L_27, L_28, L_29, L_30, L_31, L_32, L_33, L_34, L_35, L_40, L_41, L_42, L_43, L_44, L_45, L_47, L_48, L_50, L_53, L_57, L_59, L_60, L_61, L_63, L_64, L_97, L_100, L_101, L_102, L_103, L_122, L_130, L_216, L_255, L_364, L_400, L_402, L_420, L_728, L_768, L_999, L_1000, L_1093, L_1872, L_2000, L_9999, L_12345, L_252645135, L_858993459, L_1103515245, L_1431655765, Lm_1, Lm_2, Lm_8, N_zero, N_cast, N_add, N_mul, N_sub, N_addM, N_lt_tp, N_lt_fp, N_le_tp, N_le_fp, N_eq_tp, N_eq_fp, MN_ltp, MN_lep, NM_ltp, NM_lep, NM_eqp, MN_eqp, MM_lt_tp, MM_lt_fp, MM_le_tp, MM_le_fp, MM_eq_tp, MM_eq_fp, N_cl, N_in_t, N_in_f, M_in, N_div, N_rem, N_nb0, N_nb1, cond_true, cond_false, Bool.not_true, Bool.not_false, Bool.and_true, Bool.true_and, Bool.and_false, Bool.false_and, decide_true, decide_false, Option.bind_some, Option.bind_none, bcM]
            refine ih2 h1 x (Fr_trans F' F1) fun b hb => ?_
            cases hb
            exact x1
          | some b =>
            rw [hb] at ih2
            obtain ⟨b1, b2⟩ := blF_some hb
            have bl := gS_lt C.1 (by omega) b2
            have m2 := mnA_le (mkA_ok C.1 (rwith_ok C.2.1 (own := 0) (Nat.or_lt_two_pow rl bl.2))) 0
            have le := hl b hb
            have x1' : x = nN (fM T R k) := x1
            have m1' : fM T R k ≤ 60000000 := m1
            have m2' : fM T R b ≤ 60000000 := m2
            simp (disch := omega) only [L_0, L_1, L_2, L_3, L_4, L_5, L_6, L_7, L_8, L_9, L_10, L_11, L_12, L_13, L_14, L_15, L_16, L_17, L_18, L_19, L_20, L_21, L_22, L_23, L_24, L_25, L_26, L_27, L_28, L_29, L_30, L_31, L_32, L_33, L_34, L_35, L_40, L_41, L_42, L_43, L_44, L_45, L_47, L_48, L_50, L_53, L_57, L_59, L_60, L_61, L_63, L_64, L_97, L_100, L_101, L_102, L_103, L_122, L_130, L_216, L_255, L_364, L_400, L_402, L_420, L_728, L_768, L_999, L_1000, L_1093, L_1872, L_2000, L_9999, L_12345, L_252645135, L_858993459, L_1103515245, L_1431655765, Lm_1, Lm_2, Lm_8, N_zero, N_cast, N_add, N_mul, N_sub, N_addM, N_lt_tp, N_lt_fp, N_le_tp, N_le_fp, N_eq_tp, N_eq_fp, MN_ltp, MN_lep, NM_ltp, NM_lep, NM_eqp, MN_eqp, MM_lt_tp, MM_lt_fp, MM_le_tp, MM_le_fp, MM_eq_tp, MM_eq_fp, N_cl, N_in_t, N_in_f, M_in, N_div, N_rem, N_nb0, N_nb1, cond_true, cond_false, Bool.not_true, Bool.not_false, Bool.and_true, Bool.true_and, Bool.and_false, Bool.false_and, decide_true, decide_false, Option.bind_some, Option.bind_none, bcM, le, x1']
            simp only at ih2
            by_cases z3 : fM T R k < fM T R b
            · rw [if_pos z3] at ih2
              rw [N_lt_t z3 (by omega)]
              refine ih2 h1 _ (Fr_trans F' F1) fun c hc => ?_
              cases hc
              rfl
            · rw [if_neg z3] at ih2
              rw [N_lt_f (by omega) (by omega)]
              refine ih2 h1 _ (Fr_trans F' F1) fun c hc => ?_
              cases hc
              rfl
        · have g : ¬ gS (frL T R) n k := fun y => z2 y.2
          have ih2 := ih (k + 1) (by omega) h' least F'
          rw [blF_f g] at ih2
          simp (disch := omega) only [L_0, L_1, L_2, L_3, L_4, L_5, L_6, L_7, L_8, L_9, L_10, L_11, L_12, L_13, L_14, L_15, L_16, L_17, L_18, L_19, L_20, L_21, L_22, L_23, L_24, L_25, L_26, L_27, L_28, L_29, L_30, L_31, L_32, L_33, L_34, L_35, L_40, L_41, L_42, L_43, L_44, L_45, L_47, L_48, L_50, L_53, L_57, L_59, L_60, L_61, L_63, L_64, L_97, L_100, L_101, L_102, L_103, L_122, L_130, L_216, L_255, L_364, L_400, L_402, L_420, L_728, L_768, L_999, L_1000, L_1093, L_1872, L_2000, L_9999, L_12345, L_252645135, L_858993459, L_1103515245, L_1431655765, Lm_1, Lm_2, Lm_8, N_zero, N_cast, N_add, N_mul, N_sub, N_addM, N_lt_tp, N_lt_fp, N_le_tp, N_le_fp, N_eq_tp, N_eq_fp, MN_ltp, MN_lep, NM_ltp, NM_lep, NM_eqp, MN_eqp, MM_lt_tp, MM_lt_fp, MM_le_tp, MM_le_fp, MM_eq_tp, MM_eq_fp, N_cl, N_in_t, N_in_f, M_in, N_div, N_rem, N_nb0, N_nb1, cond_true, cond_false, Bool.not_true, Bool.not_false, Bool.and_true, Bool.true_and, Bool.and_false, Bool.false_and, decide_true, decide_false, Option.bind_some, Option.bind_none]
          exact ih2 hl
      · have g : ¬ gS (frL T R) n k := fun y => z1 y.1
        have ih2 := ih (k + 1) (by omega) h' least F'
        rw [blF_f g] at ih2
        simp (disch := omega) only [L_0, L_1, L_2, L_3, L_4, L_5, L_6, L_7, L_8, L_9, L_10, L_11, L_12, L_13, L_14, L_15, L_16, L_17, L_18, L_19, L_20, L_21, L_22, L_23, L_24, L_25, L_26, L_27, L_28, L_29, L_30, L_31, L_32, L_33, L_34, L_35, L_40, L_41, L_42, L_43, L_44, L_45, L_47, L_48, L_50, L_53, L_57, L_59, L_60, L_61, L_63, L_64, L_97, L_100, L_101, L_102, L_103, L_122, L_130, L_216, L_255, L_364, L_400, L_402, L_420, L_728, L_768, L_999, L_1000, L_1093, L_1872, L_2000, L_9999, L_12345, L_252645135, L_858993459, L_1103515245, L_1431655765, Lm_1, Lm_2, Lm_8, N_zero, N_cast, N_add, N_mul, N_sub, N_addM, N_lt_tp, N_lt_fp, N_le_tp, N_le_fp, N_eq_tp, N_eq_fp, MN_ltp, MN_lep, NM_ltp, NM_lep, NM_eqp, MN_eqp, MM_lt_tp, MM_lt_fp, MM_le_tp, MM_le_fp, MM_eq_tp, MM_eq_fp, N_cl, N_in_t, N_in_f, M_in, N_div, N_rem, N_nb0, N_nb1, cond_true, cond_false, Bool.not_true, Bool.not_false, Bool.and_true, Bool.true_and, Bool.and_false, Bool.false_and, decide_true, decide_false, Option.bind_some, Option.bind_none]
        exact ih2 hl
  have S22 := C.2.2.2.2.2.2.2.1.2.1.2.2
  rw [Nat.zero_add] at S22
  rw [q_M_bestLeaflets_eq, M_allHouses C]
  simp (disch := omega) only [L_0, L_1, L_2, L_3, L_4, L_5, L_6, L_7, L_8, L_9, L_10, L_11, L_12, L_13, L_14, L_15, L_16, L_17, L_18, L_19, L_20, L_21, L_22, L_23, L_24, L_25, L_26, L_27, L_28, L_29, L_30, L_31, L_32, L_33, L_34, L_35, L_40, L_41, L_42, L_43, L_44, L_45, L_47, L_48, L_50, L_53, L_57, L_59, L_60, L_61, L_63, L_64, L_97, L_100, L_101, L_102, L_103, L_122, L_130, L_216, L_255, L_364, L_400, L_402, L_420, L_728, L_768, L_999, L_1000, L_1093, L_1872, L_2000, L_9999, L_12345, L_252645135, L_858993459, L_1103515245, L_1431655765, Lm_1, Lm_2, Lm_8, N_zero, N_cast, N_add, N_mul, N_sub, N_addM, N_lt_tp, N_lt_fp, N_le_tp, N_le_fp, N_eq_tp, N_eq_fp, MN_ltp, MN_lep, NM_ltp, NM_lep, NM_eqp, MN_eqp, MM_lt_tp, MM_lt_fp, MM_le_tp, MM_le_fp, MM_eq_tp, MM_eq_fp, N_cl, N_in_t, N_in_f, M_in, N_div, N_rem, N_nb0, N_nb1, cond_true, cond_false, Bool.not_true, Bool.not_false, Bool.and_true, Bool.true_and, Bool.and_false, Bool.false_and, decide_true, decide_false, Option.bind_some, Option.bind_none, S22, bt_andm (2 ^ tn T - 1) (show 2 ^ tn T - 1 < 64 by omega) (rlf R) (show rlf R < 64 by omega)]
  exact key (frL T R + 1) 0 (Nat.zero_add _) h _ (Fr_refl _ _) (fun b hb => by cases hb)
/-- there is such a set just if enough have none -/
theorem bl_ex {T : wT} {R : wR} (hT : T_ok T) {n : Nat} (hn : n ≤ 6) : (blF T R n (frL T R + 1) = none ↔ pc (frL T R) < n) := by
  have fl := frL_lt (R := R) hT
  have p64 := pow2_64 hT.1
  have ex := sub_ex (frL T R) (by omega) n (by omega)
  constructor
  · intro h
    by_cases z : n ≤ pc (frL T R)
    · rw [decide_eq_true z] at ex
      have := ex.symm
      rw [List.any_eq_true] at this
      obtain ⟨s, hs, hb⟩ := this
      simp only [Bool.and_eq_true, Nat.beq_eq] at hb
      have g : gS (frL T R) n s := hb
      have s64 : s < 64 := List.mem_range.mp hs
      have := gS_lt hT s64 g
      exact absurd g (blF_none h s (by omega))
    · omega
  · intro h
    cases hb : blF T R n (frL T R + 1) with
    | none => rfl
    | some b =>
      obtain ⟨b1, b2⟩ := blF_some hb
      have z : ¬ n ≤ pc (frL T R) := by omega
      rw [decide_eq_false z] at ex
      have := ex.symm
      rw [List.any_eq_false] at this
      have t := this b (List.mem_range.mpr (by omega))
      exact absurd (by simp only [Bool.and_eq_true, Nat.beq_eq]; exact b2) t
theorem X_freePc {h : wb_H} {T : wT} {R : wR} {v q s : Nat} (C : Core h T R v q s B) : (nN (2 ^ tn T - 1) &&& (h.1 17 0 2 ^^^ nM 1)) = nN (frL T R) := by
  have n6 := C.1.1
  have p64 := pow2_64 n6
  have rl := C.2.1.2.2.2.2
  rw [C.2.2.2.2.2.2.2.1.1.2.2, bt_andm _ (by omega) _ (by omega)]
  rfl
theorem c_whom {h : wb_H} (I : Inv h B) (a : Int32) : Same (fun h => q_X_whom sc h a) (fun h => q_M_whom sc h a) h B := by
  obtain ⟨T, R, v, q, s, C, D⟩ := I
  have n6 := C.1.1
  have fl := frL_lt (R := R) C.1
  have p64 := pow2_64 n6
  by_cases ha : hsP (6 + 1) a
  · obtain ⟨n, hn, rfl⟩ := ha
    have w6 := pc_le (frL T R) (by omega)
    refine query (a := bcM (blF T R n (frL T R + 1))) C ?_ ?_
    · show Ok (q_X_whom sc h (nN n)) _
      rw [q_X_whom_eq]
      simp (disch := omega) only [L_0, L_1, L_2, L_3, L_4, L_5, L_6, L_7, L_8, L_9, L_10, L_11, L_12, L_13, L_14, L_15, L_16, L_17, L_18, L_19, L_20, L_21, L_22, L_23, L_24, L_25, L_26, L_27, L_28, L_29, L_30, L_31, L_32, L_33, L_34, L_35, L_40, L_41, L_42, L_43, L_44, L_45, L_47, L_48, L_50, L_53, L_57, L_59, L_60, L_61, L_63, L_64, L_97, L_100, L_101, L_102, L_103, L_122, L_130, L_216, L_255, L_364, L_400, L_402, L_420, L_728, L_768, L_999, L_1000, L_1093, L_1872, L_2000, L_9999, L_12345, L_252645135, L_858993459, L_1103515245, L_1431655765, Lm_1, Lm_2, Lm_8, N_zero, N_cast, N_add, N_mul, N_sub, N_addM, N_lt_tp, N_lt_fp, N_le_tp, N_le_fp, N_eq_tp, N_eq_fp, MN_ltp, MN_lep, NM_ltp, NM_lep, NM_eqp, MN_eqp, MM_lt_tp, MM_lt_fp, MM_le_tp, MM_le_fp, MM_eq_tp, MM_eq_fp, N_cl, N_in_t, N_in_f, M_in, N_div, N_rem, N_nb0, N_nb1, cond_true, cond_false, Bool.not_true, Bool.not_false, Bool.and_true, Bool.true_and, Bool.and_false, Bool.false_and, decide_true, decide_false, Option.bind_some, Option.bind_none, X_allHouses C, X_freePc C, X_bitCount h (frL T R) (show frL T R < 64 by omega)]
      by_cases z : pc (frL T R) < n
      · rw [(bl_ex C.1 (by omega)).mpr z]
        simp (disch := omega) only [L_0, L_1, L_2, L_3, L_4, L_5, L_6, L_7, L_8, L_9, L_10, L_11, L_12, L_13, L_14, L_15, L_16, L_17, L_18, L_19, L_20, L_21, L_22, L_23, L_24, L_25, L_26, L_27, L_28, L_29, L_30, L_31, L_32, L_33, L_34, L_35, L_40, L_41, L_42, L_43, L_44, L_45, L_47, L_48, L_50, L_53, L_57, L_59, L_60, L_61, L_63, L_64, L_97, L_100, L_101, L_102, L_103, L_122, L_130, L_216, L_255, L_364, L_400, L_402, L_420, L_728, L_768, L_999, L_1000, L_1093, L_1872, L_2000, L_9999, L_12345, L_252645135, L_858993459, L_1103515245, L_1431655765, Lm_1, Lm_2, Lm_8, N_zero, N_cast, N_add, N_mul, N_sub, N_addM, N_lt_tp, N_lt_fp, N_le_tp, N_le_fp, N_eq_tp, N_eq_fp, MN_ltp, MN_lep, NM_ltp, NM_lep, NM_eqp, MN_eqp, MM_lt_tp, MM_lt_fp, MM_le_tp, MM_le_fp, MM_eq_tp, MM_eq_fp, N_cl, N_in_t, N_in_f, M_in, N_div, N_rem, N_nb0, N_nb1, cond_true, cond_false, Bool.not_true, Bool.not_false, Bool.and_true, Bool.true_and, Bool.and_false, Bool.false_and, decide_true, decide_false, Option.bind_some, Option.bind_none]
        exact Ok_some ⟨rfl, Fr_refl _ _, D⟩
      · simp (disch := omega) only [L_0, L_1, L_2, L_3, L_4, L_5, L_6, L_7, L_8, L_9, L_10, L_11, L_12, L_13, L_14, L_15, L_16, L_17, L_18, L_19, L_20, L_21, L_22, L_23, L_24, L_25, L_26, L_27, L_28, L_29, L_30, L_31, L_32, L_33, L_34, L_35, L_40, L_41, L_42, L_43, L_44, L_45, L_47, L_48, L_50, L_53, L_57, L_59, L_60, L_61, L_63, L_64, L_97, L_100, L_101, L_102, L_103, L_122, L_130, L_216, L_255, L_364, L_400, L_402, L_420, L_728, L_768, L_999, L_1000, L_1093, L_1872, L_2000, L_9999, L_12345, L_252645135, L_858993459, L_1103515245, L_1431655765, Lm_1, Lm_2, Lm_8, N_zero, N_cast, N_add, N_mul, N_sub, N_addM, N_lt_tp, N_lt_fp, N_le_tp, N_le_fp, N_eq_tp, N_eq_fp, MN_ltp, MN_lep, NM_ltp, NM_lep, NM_eqp, MN_eqp, MM_lt_tp, MM_lt_fp, MM_le_tp, MM_le_fp, MM_eq_tp, MM_eq_fp, N_cl, N_in_t, N_in_f, M_in, N_div, N_rem, N_nb0, N_nb1, cond_true, cond_false, Bool.not_true, Bool.not_false, Bool.and_true, Bool.true_and, Bool.and_false, Bool.false_and, decide_true, decide_false, Option.bind_some, Option.bind_none]
        refine Ok_bind (X_bestLf C D (by omega)) ?_
        rintro ⟨x, h1⟩ ⟨x1, F1, D1⟩
        cases hb : blF T R n (frL T R + 1) with
        | none => exact absurd ((bl_ex C.1 (by omega)).mp hb) z
        | some b =>
          rw [hb] at x1
          exact Ok_some ⟨x1, F1, D1⟩
    · intro h0 C0
      show Ok (q_M_whom sc h0 (nN n)) _
      rw [q_M_whom_eq]
      simp only [L_0, L_1, L_2, L_3, L_4, L_5, L_6, L_7, L_8, L_9, L_10, L_11, L_12, L_13, L_14, L_15, L_16, L_17, L_18, L_19, L_20, L_21, L_22, L_23, L_24, L_25, L_26, L_27, L_28, L_29, L_30, L_31, L_32, L_33, L_34, L_35, L_40, L_41, L_42, L_43, L_44, L_45, L_47, L_48, L_50, L_53, L_57, L_59, L_60, L_61, L_63, L_64, L_97, L_100, L_101, L_102, L_103, L_122, L_130, L_216, L_255, L_364, L_400, L_402, L_420, L_728, L_768, L_999, L_1000, L_1093, L_1872, L_2000, L_9999, L_12345, L_252645135, L_858993459, L_1103515245, L_1431655765, Lm_1, Lm_2, Lm_8]
      rw [M_in_t (by omega) (by decide)]
      simp (disch := omega) only [L_0, L_1, L_2, L_3, L_4, L_5, L_6, L_7, L_8, L_9, L_10, L_11, L_12, L_13, L_14, L_15, L_16, L_17, L_18, L_19, L_20, L_21, L_22, L_23, L_24, L_25, L_26, L_27, L_28, L_29, L_30, L_31, L_32, L_33, L_34, L_35, L_40, L_41, L_42, L_43, L_44, L_45, L_47, L_48, L_50, L_53, L_57, L_59, L_60, L_61, L_63, L_64, L_97, L_100, L_101, L_102, L_103, L_122, L_130, L_216, L_255, L_364, L_400, L_402, L_420, L_728, L_768, L_999, L_1000, L_1093, L_1872, L_2000, L_9999, L_12345, L_252645135, L_858993459, L_1103515245, L_1431655765, Lm_1, Lm_2, Lm_8, N_zero, N_cast, N_add, N_mul, N_sub, N_addM, N_lt_tp, N_lt_fp, N_le_tp, N_le_fp, N_eq_tp, N_eq_fp, MN_ltp, MN_lep, NM_ltp, NM_lep, NM_eqp, MN_eqp, MM_lt_tp, MM_lt_fp, MM_le_tp, MM_le_fp, MM_eq_tp, MM_eq_fp, N_cl, N_in_t, N_in_f, M_in, N_div, N_rem, N_nb0, N_nb1, cond_true, cond_false, Bool.not_true, Bool.not_false, Bool.and_true, Bool.true_and, Bool.and_false, Bool.false_and, decide_true, decide_false, Option.bind_some, Option.bind_none]
      refine Ok_bind (M_bestLf C0 (by omega)) ?_
      rintro ⟨x, h1⟩ ⟨x1, F1⟩
      exact Ok_some ⟨x1, F1⟩
  · refine pure_query (a := nM 1) C D ?_ ?_
    · show q_X_whom sc h a = _
      rw [q_X_whom_eq]
      rcases NM_all a with ⟨k, rfl, hk⟩ | ⟨k, rfl, hk1, hk2⟩
      · have : ¬ k < 6 + 1 := fun t => ha ⟨k, t, rfl⟩
        simp (disch := omega) only [L_0, L_1, L_2, L_3, L_4, L_5, L_6, L_7, L_8, L_9, L_10, L_11, L_12, L_13, L_14, L_15, L_16, L_17, L_18, L_19, L_20, L_21, L_22, L_23, L_24, L_25, L_26, L_27, L_28, L_29, L_30, L_31, L_32, L_33, L_34, L_35, L_40, L_41, L_42, L_43, L_44, L_45, L_47, L_48, L_50, L_53, L_57, L_59, L_60, L_61, L_63, L_64, L_97, L_100, L_101, L_102, L_103, L_122, L_130, L_216, L_255, L_364, L_400, L_402, L_420, L_728, L_768, L_999, L_1000, L_1093, L_1872, L_2000, L_9999, L_12345, L_252645135, L_858993459, L_1103515245, L_1431655765, Lm_1, Lm_2, Lm_8, N_zero, N_cast, N_add, N_mul, N_sub, N_addM, N_lt_tp, N_lt_fp, N_le_tp, N_le_fp, N_eq_tp, N_eq_fp, MN_ltp, MN_lep, NM_ltp, NM_lep, NM_eqp, MN_eqp, MM_lt_tp, MM_lt_fp, MM_le_tp, MM_le_fp, MM_eq_tp, MM_eq_fp, N_cl, N_in_t, N_in_f, M_in, N_div, N_rem, N_nb0, N_nb1, cond_true, cond_false, Bool.not_true, Bool.not_false, Bool.and_true, Bool.true_and, Bool.and_false, Bool.false_and, decide_true, decide_false, Option.bind_some, Option.bind_none]
      · simp (disch := omega) only [L_0, L_1, L_2, L_3, L_4, L_5, L_6, L_7, L_8, L_9, L_10, L_11, L_12, L_13, L_14, L_15, L_16, L_17, L_18, L_19, L_20, L_21, L_22, L_23, L_24, L_25, L_26, L_27, L_28, L_29, L_30, L_31, L_32, L_33, L_34, L_35, L_40, L_41, L_42, L_43, L_44, L_45, L_47, L_48, L_50, L_53, L_57, L_59, L_60, L_61, L_63, L_64, L_97, L_100, L_101, L_102, L_103, L_122, L_130, L_216, L_255, L_364, L_400, L_402, L_420, L_728, L_768, L_999, L_1000, L_1093, L_1872, L_2000, L_9999, L_12345, L_252645135, L_858993459, L_1103515245, L_1431655765, Lm_1, Lm_2, Lm_8, N_zero, N_cast, N_add, N_mul, N_sub, N_addM, N_lt_tp, N_lt_fp, N_le_tp, N_le_fp, N_eq_tp, N_eq_fp, MN_ltp, MN_lep, NM_ltp, NM_lep, NM_eqp, MN_eqp, MM_lt_tp, MM_lt_fp, MM_le_tp, MM_le_fp, MM_eq_tp, MM_eq_fp, N_cl, N_in_t, N_in_f, M_in, N_div, N_rem, N_nb0, N_nb1, cond_true, cond_false, Bool.not_true, Bool.not_false, Bool.and_true, Bool.true_and, Bool.and_false, Bool.false_and, decide_true, decide_false, Option.bind_some, Option.bind_none]
    · show Ok (q_M_whom sc h a) _
      rw [q_M_whom_eq]
      simp only [L_0, L_1, L_2, L_3, L_4, L_5, L_6, L_7, L_8, L_9, L_10, L_11, L_12, L_13, L_14, L_15, L_16, L_17, L_18, L_19, L_20, L_21, L_22, L_23, L_24, L_25, L_26, L_27, L_28, L_29, L_30, L_31, L_32, L_33, L_34, L_35, L_40, L_41, L_42, L_43, L_44, L_45, L_47, L_48, L_50, L_53, L_57, L_59, L_60, L_61, L_63, L_64, L_97, L_100, L_101, L_102, L_103, L_122, L_130, L_216, L_255, L_364, L_400, L_402, L_420, L_728, L_768, L_999, L_1000, L_1093, L_1872, L_2000, L_9999, L_12345, L_252645135, L_858993459, L_1103515245, L_1431655765, Lm_1, Lm_2, Lm_8]
      rw [M_in_f (by decide) ha]
      simp (disch := omega) only [L_0, L_1, L_2, L_3, L_4, L_5, L_6, L_7, L_8, L_9, L_10, L_11, L_12, L_13, L_14, L_15, L_16, L_17, L_18, L_19, L_20, L_21, L_22, L_23, L_24, L_25, L_26, L_27, L_28, L_29, L_30, L_31, L_32, L_33, L_34, L_35, L_40, L_41, L_42, L_43, L_44, L_45, L_47, L_48, L_50, L_53, L_57, L_59, L_60, L_61, L_63, L_64, L_97, L_100, L_101, L_102, L_103, L_122, L_130, L_216, L_255, L_364, L_400, L_402, L_420, L_728, L_768, L_999, L_1000, L_1093, L_1872, L_2000, L_9999, L_12345, L_252645135, L_858993459, L_1103515245, L_1431655765, Lm_1, Lm_2, Lm_8, N_zero, N_cast, N_add, N_mul, N_sub, N_addM, N_lt_tp, N_lt_fp, N_le_tp, N_le_fp, N_eq_tp, N_eq_fp, MN_ltp, MN_lep, NM_ltp, NM_lep, NM_eqp, MN_eqp, MM_lt_tp, MM_lt_fp, MM_le_tp, MM_le_fp, MM_eq_tp, MM_eq_fp, N_cl, N_in_t, N_in_f, M_in, N_div, N_rem, N_nb0, N_nb1, cond_true, cond_false, Bool.not_true, Bool.not_false, Bool.and_true, Bool.true_and, Bool.and_false, Bool.false_and, decide_true, decide_false, Option.bind_some, Option.bind_none]
      exact Ok_some ⟨rfl, Fr_refl _ _⟩
end
