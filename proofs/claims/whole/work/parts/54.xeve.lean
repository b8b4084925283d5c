/-! The class's evening: all of it. -/
def SX : List Nat := [32, 33, 34, 35, 36, 3012]
section
variable {sc : wb_X} {q R : Nat} {A : wa}
theorem X_spread (hA : wa_ok A) {h : wb_H} {D : wD} {p : Nat} (hX : XA h q A) (hp : p < an A) (hS : ahb A (aho A p) = 4 → XS h A D p) (hD : ∀ c, c ≤ 1 → sm (3 ^ p) (wcol c D) ≤ 10000000) (g1 : ∀ r, r < 3 ^ p → h.1 32 0 (rf p + r) = nN (D.1 r)) (g2 : ∀ r, r < 3 ^ p → h.1 33 0 (rf p + r) = nN (D.2 r))
    (z : ∀ x, rf (p + 1) ≤ x → x < rf (p + 2) → h.1 32 0 x = nN 0 ∧ h.1 33 0 x = nN 0) : Ok (q_Evening_spread sc h (nN p)) (fun h' => inS h h' A D p (3 ^ p)) := by
  have h6 := hA.1
  have hh := hA.2.2.2.1 p hp
  have hsu := hA.2.2.2.2.1 _ hh.1
  have c3 : rf (p + 2) = rf (p + 1) + 3 ^ (p + 1) := rf_succ (p + 1) (by omega)
  obtain ⟨a1, a2, a3, a4, a5, a6, a7, a8, a9, a10, a11⟩ := hX
  have hX : XA h q A := ⟨a1, a2, a3, a4, a5, a6, a7, a8, a9, a10, a11⟩
  have f1 := a5 p hp
  have f2 := a8 _ hh.1
  rw [q_Evening_spread_eq]
  simp (disch := omega) only [L_0, L_1, L_2, L_3, L_4, L_5, L_6, L_7, L_8, L_9, L_10, L_11, L_12, L_13, L_14, L_15, L_16, L_17, L_18, L_19, L_20, L_21, L_22, L_23, L_24, L_25, L_26, L_27, L_28, L_29, L_30, L_31, L_32, L_33, L_34, L_35, L_40, L_41, L_42, L_43, L_44, L_45, L_47, L_48, L_50, L_53, L_57, L_59, L_60, L_61, L_63, L_64, L_97, L_100, L_101, L_102, L_103, L_122, L_130, L_216, L_255, L_364, L_400, L_402, L_420, L_728, L_768, L_999, L_1000, L_1093, L_1872, L_2000, L_9999, L_12345, L_252645135, L_858993459, L_1103515245, L_1431655765, Lm_1, Lm_2, Lm_8, N_zero, N_cast, N_add, N_mul, N_sub, N_addM, N_lt_tp, N_lt_fp, N_le_tp, N_le_fp, N_eq_tp, N_eq_fp, MN_ltp, MN_lep, NM_ltp, NM_lep, NM_eqp, MN_eqp, MM_lt_tp, MM_lt_fp, MM_le_tp, MM_le_fp, MM_eq_tp, MM_eq_fp, N_cl, N_in_t, N_in_f, M_in, N_div, N_rem, N_nb0, N_nb1, cond_true, cond_false, Bool.not_true, Bool.not_false, Bool.and_true, Bool.true_and, Bool.and_false, Bool.false_and, decide_true, decide_false, Option.bind_some, Option.bind_none, tr_1, tr_2, tr_1z, tr_2z, f1, f2]
  refine X_spread_L hA hX hp hS hD g1 g2 (3 ^ p) 0 (Nat.zero_add _) h ⟨Fr_refl _ _, fun x hx => ?_, fun x hx => ?_, fun x _ => ⟨rfl, rfl⟩, fun i => ?_, ?_⟩
  · rw [if_neg (by omega)]; exact (z _ (by omega) (by omega)).1
  · rw [if_neg (by omega)]; exact (z _ (by omega) (by omega)).2
  · by_cases t : i = aho A p
    · rw [if_pos t, sm]; unfold nN; rw [show ((0 : Nat) : Int) = 0 from rfl, show Int32.ofInt 0 = 0 from rfl, Int32.add_zero]
    · rw [if_neg t]
  · rw [sm]; unfold nN; rw [show ((0 : Nat) : Int) = 0 from rfl, show Int32.ofInt 0 = 0 from rfl, Int32.add_zero]
/-- before what is put right at p -/
def UU (h0 h : wb_H) (A : wa) (R p : Nat) : Prop := Fr SX h0 h ∧ (∀ r, r < 3 ^ p → h.1 32 0 (rf p + r) = nN ((dp A R p).1 r)) ∧ (∀ r, r < 3 ^ p → h.1 33 0 (rf p + r) = nN ((dp A R p).2 r)) ∧
  (∀ x, rf (p + 1) ≤ x → x < rf (an A + 1) → h.1 32 0 x = nN 0 ∧ h.1 33 0 x = nN 0) ∧ (∀ i, i < an A → p ≤ apl A i → h.1 36 0 i = nN 0) ∧ (R < p → (∀ i, i < an A → apl A i < p → h.1 36 0 i = nN (wrP A R (apl A i))) ∧ h.1 11 0 12 = nN (sm p (boP A R))) ∧
  (∀ p', p' < p → ahb A (aho A p') = 4 → XS h A (dpr A R p') p')
/-- after it -/
def VV (h0 h : wb_H) (A : wa) (R p : Nat) : Prop := Fr SX h0 h ∧ (∀ r, r < 3 ^ p → h.1 32 0 (rf p + r) = nN ((dpr A R p).1 r)) ∧ (∀ r, r < 3 ^ p → h.1 33 0 (rf p + r) = nN ((dpr A R p).2 r)) ∧
  (∀ x, rf (p + 1) ≤ x → x < rf (an A + 1) → h.1 32 0 x = nN 0 ∧ h.1 33 0 x = nN 0) ∧ (∀ i, i < an A → p ≤ apl A i → h.1 36 0 i = nN 0) ∧ (R ≤ p → (∀ i, i < an A → apl A i < p → h.1 36 0 i = nN (wrP A R (apl A i))) ∧ h.1 11 0 12 = nN (sm p (boP A R))) ∧
  (∀ p', p' < p → ahb A (aho A p') = 4 → XS h A (dpr A R p') p')
theorem wrP_right {A : wa} (hA : wa_ok A) {R p : Nat} (h1 : p < R) (h2 : R ≤ an A) : wrP A R p = 0 := by
  unfold wrP
  rw [cnt_right hA h1 h2 (by decide), cnt_right hA h1 h2 (by decide)]
theorem boP_right {A : wa} (hA : wa_ok A) {R p : Nat} (h1 : p < R) (h2 : R ≤ an A) : boP A R p = 0 := by
  unfold boP
  rw [cnt_right hA h1 h2 (by decide), cnt_right hA h1 h2 (by decide)]
theorem XS_lo {h h' : wb_H} {A : wa} {D : wD} {p P : Nat} (hp : p < P) (hP : P < 7) (g : ∀ x, x < rf P → h'.1 34 0 x = h.1 34 0 x ∧ h'.1 35 0 x = h.1 35 0 x) (hS : XS h A D p) : XS h' A D p := by
  have b0 := sk_le A p
  have d2 := pow3_mono b0
  have b2 := rf_succ p (by omega)
  have b3 := rf_le (p + 1) (by omega) P (by omega) (by omega)
  exact ⟨fun i hi => (g _ (by omega)).1.trans (hS.1 i hi), fun i hi => (g _ (by omega)).2.trans (hS.2 i hi)⟩
theorem UV_right (hA : wa_ok A) (hR : R ≤ an A) {h0 h : wb_H} {p : Nat} (e : p = R) (U : UU h0 h A R p) : Ok (q_Evening_putRight sc h (nN p)) (fun h' => VV h0 h' A R p) := by
  have h6 := hA.1
  obtain ⟨U1, U2, U3, U4, U5, U6, U7⟩ := U
  refine Ok_w (X_putRight (D := dp A R p) (by omega) U2 U3) ?_
  rintro h' ⟨J1, J2, J3, J4, J5, J6⟩
  have ed : dpr A R p = dright (dp A R p) p := if_pos e
  refine ⟨Fr_trans U1 (Fr_mono J1 rfl), ?_, ?_, ?_, ?_, ?_, ?_⟩
  · rw [ed]; exact J2
  · rw [ed]; exact J3
  · intro x h1 h2
    rw [(J4 x h1).1, (J4 x h1).2]
    exact U4 x h1 h2
  · intro i hi _
    exact J5 i (by omega)
  · intro _
    refine ⟨fun i hi t => ?_, ?_⟩
    · rw [J5 i (by omega), wrP_right hA (by omega) hR]
    · rw [J6, sm_zero' (fun i hi => boP_right hA (by omega) hR)]
  · intro p' hp' e'
    exact ⟨fun i hi => (Fr_i J1 (by rfl)).trans ((U7 p' hp' e').1 i hi), fun i hi => (Fr_i J1 (by rfl)).trans ((U7 p' hp' e').2 i hi)⟩
theorem UV_same {h0 h : wb_H} {p : Nat} (e : p ≠ R) (U : UU h0 h A R p) : VV h0 h A R p := by
  obtain ⟨U1, U2, U3, U4, U5, U6, U7⟩ := U
  have ed : dpr A R p = dp A R p := if_neg e
  refine ⟨U1, ?_, ?_, U4, U5, fun t => U6 (by omega), U7⟩
  · rw [ed]; exact U2
  · rw [ed]; exact U3
theorem VU_spread (hA : wa_ok A) (hR : R ≤ an A) {h0 h : wb_H} (hX0 : XA h0 q A) {p : Nat} (hp : p < an A) (V : VV h0 h A R p) (hS : ahb A (aho A p) = 4 → XS h A (dpr A R p) p) : Ok (q_Evening_spread sc h (nN p)) (fun h' => UU h0 h' A R (p + 1)) := by
  have h6 := hA.1
  have hh := hA.2.2.2.1 p hp
  obtain ⟨V1, V2, V3, V4, V5, V6, V7⟩ := V
  have hle := rf_le (p + 2) (by omega) (an A + 1) (by omega) (by omega)
  refine Ok_w (X_spread hA (XA_fr V1 rfl hX0) hp hS (fun c hc => D_le hA R (by omega) hc) V2 V3 (fun x h1 h2 => V4 x h1 (by omega))) ?_
  rintro h' ⟨J1, J2, J3, J4, J5, J6⟩
  have md : ∀ x, x % 3 ^ p < 3 ^ p := fun x => Nat.mod_lt _ (pow3_pos p)
  refine ⟨Fr_trans V1 (Fr_mono J1 rfl), ?_, ?_, ?_, ?_, ?_, ?_⟩
  · intro r hr
    rw [J2 r hr, if_pos (md r), dp_succ]
  · intro r hr
    rw [J3 r hr, if_pos (md r), dp_succ]
  · intro x h1 h2
    have k := J4 x (Or.inr h1)
    rw [k.1, k.2]
    have := rf_le (p + 1) (by omega) (p + 2) (by omega) (by omega)
    have h1' : rf (p + 2) ≤ x := h1
    exact V4 x (by omega) h2
  · intro i hi t
    rw [J5 i, if_neg (fun z => by rw [z, hh.2] at t; omega)]
    exact V5 i hi (by omega)
  · intro t
    have v := V6 (by omega)
    have nk : ¬ (p < R ∧ R ≤ an A) := by omega
    refine ⟨fun i hi t2 => ?_, ?_⟩
    · rw [J5 i]
      by_cases z : i = aho A p
      · rw [if_pos z, V5 i hi (by rw [z, hh.2]; exact Nat.le_refl _), wrc_sum, N_add, Nat.zero_add, z, hh.2]
        unfold wrP
        rw [cnt_keep hA hp nk (by decide), cnt_keep hA hp nk (by decide), Nat.add_mul]
      · rw [if_neg z]
        have : apl A i ≠ p := fun y => z (by rw [← y, (hA.2.2.1 i hi).2])
        exact v.1 i hi (by omega)
    · rw [J6, v.2, boc_sum, N_add, sm]
      unfold boP
      rw [cnt_keep hA hp nk (by decide), cnt_keep hA hp nk (by decide), Nat.add_mul]
  · intro p' hp' e'
    have k : XS h A (dpr A R p') p' := by
      by_cases z : p' = p
      · rw [z]; rw [z] at e'; exact hS e'
      · exact V7 p' (by omega) e'
    exact ⟨fun i hi => (Fr_i J1 (by rfl)).trans (k.1 i hi), fun i hi => (Fr_i J1 (by rfl)).trans (k.2 i hi)⟩
theorem VV_gather (hA : wa_ok A) {h0 h : wb_H} (hX0 : XA h0 q A) {p : Nat} (hp : p < an A) (V : VV h0 h A R p) : Ok (q_Evening_gatherSeen sc h (nN p)) (fun h' => VV h0 h' A R p ∧ XS h' A (dpr A R p) p) := by
  have h6 := hA.1
  obtain ⟨V1, V2, V3, V4, V5, V6, V7⟩ := V
  refine Ok_w (X_gather hA (XA_fr V1 rfl hX0) hp V2 V3) ?_
  rintro h' ⟨J1, J2, J3⟩
  refine ⟨⟨Fr_trans V1 (Fr_mono J1 rfl), fun r hr => (Fr_i J1 (by rfl)).trans (V2 r hr), fun r hr => (Fr_i J1 (by rfl)).trans (V3 r hr), fun x a b => ?_, fun i hi t => (Fr_i J1 (by rfl)).trans (V5 i hi t), fun t => ⟨fun i hi t2 => (Fr_i J1 (by rfl)).trans ((V6 t).1 i hi t2), (Fr_i J1 (by rfl)).trans (V6 t).2⟩, fun p' hp' e' => XS_lo hp' (by omega) J3 (V7 p' hp' e')⟩, J2⟩
  rw [Fr_i J1 (by rfl), Fr_i J1 (by rfl)]
  exact V4 x a b
/-- an evening that is unfolded -/
def XE (h : wb_H) (A : wa) (R : Nat) : Prop := (∀ i, i < an A → h.1 36 0 i = nN (wrP A R (apl A i))) ∧ h.1 11 0 12 = nN (sm (an A) (boP A R)) ∧ (∀ r, r < 3 ^ an A → h.1 32 0 (rf (an A) + r) = nN ((dpr A R (an A)).1 r)) ∧ (∀ r, r < 3 ^ an A → h.1 33 0 (rf (an A) + r) = nN ((dpr A R (an A)).2 r)) ∧ (∀ p, p < an A → ahb A (aho A p) = 4 → XS h A (dpr A R p) p)
theorem VV_end (hA : wa_ok A) (hR : R ≤ an A) {h0 h : wb_H} (V : VV h0 h A R (an A)) : XE h A R := by
  obtain ⟨V1, V2, V3, V4, V5, V6, V7⟩ := V
  have v := V6 hR
  exact ⟨fun i hi => v.1 i hi (hA.2.2.1 i hi).1, v.2, V2, V3, V7⟩
theorem X_unfold_L (hA : wa_ok A) (hR : R ≤ an A) {h0 : wb_H} (hX0 : XA h0 q A) : ∀ k p, p + k = an A → ∀ h, UU h0 h A R p → Ok (q_Evening_unfold_L75 sc h (nN R) (nN p)) (fun h' => Fr SX h0 h' ∧ XE h' A R) := by
  have h6 := hA.1
  intro k
  induction k with
  | zero =>
    intro p hp h U
    rw [Nat.add_zero] at hp
    subst hp
    have X1 := XA_fr U.1 rfl hX0
    have a3 := X1.2.2.1
    rw [q_Evening_unfold_L75_eq]
    by_cases e : an A = R
    · simp (disch := omega) only [L_0, L_1, L_2, L_3, L_4, L_5, L_6, L_7, L_8, L_9, L_10, L_11, L_12, L_13, L_14, L_15, L_16, L_17, L_18, L_19, L_20, L_21, L_22, L_23, L_24, L_25, L_26, L_27, L_28, L_29, L_30, L_31, L_32, L_33, L_34, L_35, L_40, L_41, L_42, L_43, L_44, L_45, L_47, L_48, L_50, L_53, L_57, L_59, L_60, L_61, L_63, L_64, L_97, L_100, L_101, L_102, L_103, L_122, L_130, L_216, L_255, L_364, L_400, L_402, L_420, L_728, L_768, L_999, L_1000, L_1093, L_1872, L_2000, L_9999, L_12345, L_252645135, L_858993459, L_1103515245, L_1431655765, Lm_1, Lm_2, Lm_8, N_zero, N_cast, N_add, N_mul, N_sub, N_addM, N_lt_tp, N_lt_fp, N_le_tp, N_le_fp, N_eq_tp, N_eq_fp, MN_ltp, MN_lep, NM_ltp, NM_lep, NM_eqp, MN_eqp, MM_lt_tp, MM_lt_fp, MM_le_tp, MM_le_fp, MM_eq_tp, MM_eq_fp, N_cl, N_in_t, N_in_f, M_in, N_div, N_rem, N_nb0, N_nb1, cond_true, cond_false, Bool.not_true, Bool.not_false, Bool.and_true, Bool.true_and, Bool.and_false, Bool.false_and, decide_true, decide_false, Option.bind_some, Option.bind_none, a3]
      refine Ok_bind (UV_right hA hR e U) ?_
      intro h' V
      exact Ok_some ⟨V.1, VV_end hA hR V⟩
    · simp (disch := omega) only [L_0, L_1, L_2, L_3, L_4, L_5, L_6, L_7, L_8, L_9, L_10, L_11, L_12, L_13, L_14, L_15, L_16, L_17, L_18, L_19, L_20, L_21, L_22, L_23, L_24, L_25, L_26, L_27, L_28, L_29, L_30, L_31, L_32, L_33, L_34, L_35, L_40, L_41, L_42, L_43, L_44, L_45, L_47, L_48, L_50, L_53, L_57, L_59, L_60, L_61, L_63, L_64, L_97, L_100, L_101, L_102, L_103, L_122, L_130, L_216, L_255, L_364, L_400, L_402, L_420, L_728, L_768, L_999, L_1000, L_1093, L_1872, L_2000, L_9999, L_12345, L_252645135, L_858993459, L_1103515245, L_1431655765, Lm_1, Lm_2, Lm_8, N_zero, N_cast, N_add, N_mul, N_sub, N_addM, N_lt_tp, N_lt_fp, N_le_tp, N_le_fp, N_eq_tp, N_eq_fp, MN_ltp, MN_lep, NM_ltp, NM_lep, NM_eqp, MN_eqp, MM_lt_tp, MM_lt_fp, MM_le_tp, MM_le_fp, MM_eq_tp, MM_eq_fp, N_cl, N_in_t, N_in_f, M_in, N_div, N_rem, N_nb0, N_nb1, cond_true, cond_false, Bool.not_true, Bool.not_false, Bool.and_true, Bool.true_and, Bool.and_false, Bool.false_and, decide_true, decide_false, Option.bind_some, Option.bind_none, a3]
      have V := UV_same e U
      exact Ok_some ⟨V.1, VV_end hA hR V⟩
  | succ k ih =>
    intro p hp h U
    have hpn : p < an A := by omega
    have hh := hA.2.2.2.1 p hpn
    have h7 := (hA.2.2.2.2.2.1 _ hh.1).1
    have go : ∀ h, VV h0 h A R p → h.1 27 0 p = nN (aho A p) ∧ h.1 30 0 (aho A p) = nN (ahb A (aho A p)) := by
      intro h V
      have X1 := XA_fr V.1 rfl hX0
      exact ⟨X1.2.2.2.2.1 p hpn, X1.2.2.2.2.2.2.2.2.1 _ hh.1⟩
    have a3 := (XA_fr U.1 rfl hX0).2.2.1
    rw [q_Evening_unfold_L75_eq]
    by_cases e : p = R
    · simp (disch := omega) only [L_0, L_1, L_2, L_3, L_4, L_5, L_6, L_7, L_8, L_9, L_10, L_11, L_12, L_13, L_14, L_15, L_16, L_17, L_18, L_19, L_20, L_21, L_22, L_23, L_24, L_25, L_26, L_27, L_28, L_29, L_30, L_31, L_32, L_33, L_34, L_35, L_40, L_41, L_42, L_43, L_44, L_45, L_47, L_48, L_50, L_53, L_57, L_59, L_60, L_61, L_63, L_64, L_97, L_100, L_101, L_102, L_103, L_122, L_130, L_216, L_255, L_364, L_400, L_402, L_420, L_728, L_768, L_999, L_1000, L_1093, L_1872, L_2000, L_9999, L_12345, L_252645135, L_858993459, L_1103515245, L_1431655765, Lm_1, Lm_2, Lm_8, N_zero, N_cast, N_add, N_mul, N_sub, N_addM, N_lt_tp, N_lt_fp, N_le_tp, N_le_fp, N_eq_tp, N_eq_fp, MN_ltp, MN_lep, NM_ltp, NM_lep, NM_eqp, MN_eqp, MM_lt_tp, MM_lt_fp, MM_le_tp, MM_le_fp, MM_eq_tp, MM_eq_fp, N_cl, N_in_t, N_in_f, M_in, N_div, N_rem, N_nb0, N_nb1, cond_true, cond_false, Bool.not_true, Bool.not_false, Bool.and_true, Bool.true_and, Bool.and_false, Bool.false_and, decide_true, decide_false, Option.bind_some, Option.bind_none, a3]
      refine Ok_bind (UV_right hA hR e U) ?_
      intro h1 V
      obtain ⟨f1, f2⟩ := go h1 V
      by_cases w : ahb A (aho A p) = 4
      · simp (disch := omega) only [L_0, L_1, L_2, L_3, L_4, L_5, L_6, L_7, L_8, L_9, L_10, L_11, L_12, L_13, L_14, L_15, L_16, L_17, L_18, L_19, L_20, L_21, L_22, L_23, L_24, L_25, L_26, L_27, L_28, L_29, L_30, L_31, L_32, L_33, L_34, L_35, L_40, L_41, L_42, L_43, L_44, L_45, L_47, L_48, L_50, L_53, L_57, L_59, L_60, L_61, L_63, L_64, L_97, L_100, L_101, L_102, L_103, L_122, L_130, L_216, L_255, L_364, L_400, L_402, L_420, L_728, L_768, L_999, L_1000, L_1093, L_1872, L_2000, L_9999, L_12345, L_252645135, L_858993459, L_1103515245, L_1431655765, Lm_1, Lm_2, Lm_8, N_zero, N_cast, N_add, N_mul, N_sub, N_addM, N_lt_tp, N_lt_fp, N_le_tp, N_le_fp, N_eq_tp, N_eq_fp, MN_ltp, MN_lep, NM_ltp, NM_lep, NM_eqp, MN_eqp, MM_lt_tp, MM_lt_fp, MM_le_tp, MM_le_fp, MM_eq_tp, MM_eq_fp, N_cl, N_in_t, N_in_f, M_in, N_div, N_rem, N_nb0, N_nb1, cond_true, cond_false, Bool.not_true, Bool.not_false, Bool.and_true, Bool.true_and, Bool.and_false, Bool.false_and, decide_true, decide_false, Option.bind_some, Option.bind_none, f1, f2]
        refine Ok_bind (VV_gather hA hX0 hpn V) ?_
        rintro h2 ⟨V2, S2⟩
        exact Ok_bind (VU_spread hA hR hX0 hpn V2 (fun _ => S2)) (fun h3 U3 => ih (p + 1) (by omega) h3 U3)
      · simp (disch := omega) only [L_0, L_1, L_2, L_3, L_4, L_5, L_6, L_7, L_8, L_9, L_10, L_11, L_12, L_13, L_14, L_15, L_16, L_17, L_18, L_19, L_20, L_21, L_22, L_23, L_24, L_25, L_26, L_27, L_28, L_29, L_30, L_31, L_32, L_33, L_34, L_35, L_40, L_41, L_42, L_43, L_44, L_45, L_47, L_48, L_50, L_53, L_57, L_59, L_60, L_61, L_63, L_64, L_97, L_100, L_101, L_102, L_103, L_122, L_130, L_216, L_255, L_364, L_400, L_402, L_420, L_728, L_768, L_999, L_1000, L_1093, L_1872, L_2000, L_9999, L_12345, L_252645135, L_858993459, L_1103515245, L_1431655765, Lm_1, Lm_2, Lm_8, N_zero, N_cast, N_add, N_mul, N_sub, N_addM, N_lt_tp, N_lt_fp, N_le_tp, N_le_fp, N_eq_tp, N_eq_fp, MN_ltp, MN_lep, NM_ltp, NM_lep, NM_eqp, MN_eqp, MM_lt_tp, MM_lt_fp, MM_le_tp, MM_le_fp, MM_eq_tp, MM_eq_fp, N_cl, N_in_t, N_in_f, M_in, N_div, N_rem, N_nb0, N_nb1, cond_true, cond_false, Bool.not_true, Bool.not_false, Bool.and_true, Bool.true_and, Bool.and_false, Bool.false_and, decide_true, decide_false, Option.bind_some, Option.bind_none, f1, f2]
        exact Ok_bind (VU_spread hA hR hX0 hpn V (fun z => absurd z w)) (fun h3 U3 => ih (p + 1) (by omega) h3 U3)
    · have V := UV_same e U
      obtain ⟨f1, f2⟩ := go h V
      by_cases w : ahb A (aho A p) = 4
      · simp (disch := omega) only [L_0, L_1, L_2, L_3, L_4, L_5, L_6, L_7, L_8, L_9, L_10, L_11, L_12, L_13, L_14, L_15, L_16, L_17, L_18, L_19, L_20, L_21, L_22, L_23, L_24, L_25, L_26, L_27, L_28, L_29, L_30, L_31, L_32, L_33, L_34, L_35, L_40, L_41, L_42, L_43, L_44, L_45, L_47, L_48, L_50, L_53, L_57, L_59, L_60, L_61, L_63, L_64, L_97, L_100, L_101, L_102, L_103, L_122, L_130, L_216, L_255, L_364, L_400, L_402, L_420, L_728, L_768, L_999, L_1000, L_1093, L_1872, L_2000, L_9999, L_12345, L_252645135, L_858993459, L_1103515245, L_1431655765, Lm_1, Lm_2, Lm_8, N_zero, N_cast, N_add, N_mul, N_sub, N_addM, N_lt_tp, N_lt_fp, N_le_tp, N_le_fp, N_eq_tp, N_eq_fp, MN_ltp, MN_lep, NM_ltp, NM_lep, NM_eqp, MN_eqp, MM_lt_tp, MM_lt_fp, MM_le_tp, MM_le_fp, MM_eq_tp, MM_eq_fp, N_cl, N_in_t, N_in_f, M_in, N_div, N_rem, N_nb0, N_nb1, cond_true, cond_false, Bool.not_true, Bool.not_false, Bool.and_true, Bool.true_and, Bool.and_false, Bool.false_and, decide_true, decide_false, Option.bind_some, Option.bind_none, a3, f1, f2]
        refine Ok_bind (VV_gather hA hX0 hpn V) ?_
        rintro h2 ⟨V2, S2⟩
        exact Ok_bind (VU_spread hA hR hX0 hpn V2 (fun _ => S2)) (fun h3 U3 => ih (p + 1) (by omega) h3 U3)
      · simp (disch := omega) only [L_0, L_1, L_2, L_3, L_4, L_5, L_6, L_7, L_8, L_9, L_10, L_11, L_12, L_13, L_14, L_15, L_16, L_17, L_18, L_19, L_20, L_21, L_22, L_23, L_24, L_25, L_26, L_27, L_28, L_29, L_30, L_31, L_32, L_33, L_34, L_35, L_40, L_41, L_42, L_43, L_44, L_45, L_47, L_48, L_50, L_53, L_57, L_59, L_60, L_61, L_63, L_64, L_97, L_100, L_101, L_102, L_103, L_122, L_130, L_216, L_255, L_364, L_400, L_402, L_420, L_728, L_768, L_999, L_1000, L_1093, L_1872, L_2000, L_9999, L_12345, L_252645135, L_858993459, L_1103515245, L_1431655765, Lm_1, Lm_2, Lm_8, N_zero, N_cast, N_add, N_mul, N_sub, N_addM, N_lt_tp, N_lt_fp, N_le_tp, N_le_fp, N_eq_tp, N_eq_fp, MN_ltp, MN_lep, NM_ltp, NM_lep, NM_eqp, MN_eqp, MM_lt_tp, MM_lt_fp, MM_le_tp, MM_le_fp, MM_eq_tp, MM_eq_fp, N_cl, N_in_t, N_in_f, M_in, N_div, N_rem, N_nb0, N_nb1, cond_true, cond_false, Bool.not_true, Bool.not_false, Bool.and_true, Bool.true_and, Bool.and_false, Bool.false_and, decide_true, decide_false, Option.bind_some, Option.bind_none, a3, f1, f2]
        exact Ok_bind (VU_spread hA hR hX0 hpn V (fun z => absurd z w)) (fun h3 U3 => ih (p + 1) (by omega) h3 U3)
theorem X_unfold (hA : wa_ok A) (hR : R ≤ an A) {h : wb_H} (hX : XA h q A) : Ok (q_Evening_unfold sc h (nN R)) (fun h' => Fr SX h h' ∧ XE h' A R) := by
  have h6 := hA.1
  have hB := hA.2.1
  have hle := rf_le (an A + 1) (by omega) 7 (by omega) (by omega)
  rw [rf_7] at hle
  have hXX := hX
  obtain ⟨a1, a2, a3, a4, a5, -⟩ := hX
  rw [q_Evening_unfold_eq]
  simp (disch := omega) only [L_0, L_1, L_2, L_3, L_4, L_5, L_6, L_7, L_8, L_9, L_10, L_11, L_12, L_13, L_14, L_15, L_16, L_17, L_18, L_19, L_20, L_21, L_22, L_23, L_24, L_25, L_26, L_27, L_28, L_29, L_30, L_31, L_32, L_33, L_34, L_35, L_40, L_41, L_42, L_43, L_44, L_45, L_47, L_48, L_50, L_53, L_57, L_59, L_60, L_61, L_63, L_64, L_97, L_100, L_101, L_102, L_103, L_122, L_130, L_216, L_255, L_364, L_400, L_402, L_420, L_728, L_768, L_999, L_1000, L_1093, L_1872, L_2000, L_9999, L_12345, L_252645135, L_858993459, L_1103515245, L_1431655765, Lm_1, Lm_2, Lm_8, N_zero, N_cast, N_add, N_mul, N_sub, N_addM, N_lt_tp, N_lt_fp, N_le_tp, N_le_fp, N_eq_tp, N_eq_fp, MN_ltp, MN_lep, NM_ltp, NM_lep, NM_eqp, MN_eqp, MM_lt_tp, MM_lt_fp, MM_le_tp, MM_le_fp, MM_eq_tp, MM_eq_fp, N_cl, N_in_t, N_in_f, M_in, N_div, N_rem, N_nb0, N_nb1, cond_true, cond_false, Bool.not_true, Bool.not_false, Bool.and_true, Bool.true_and, Bool.and_false, Bool.false_and, decide_true, decide_false, Option.bind_some, Option.bind_none, a3, tr_1, tr_2, tr_1z, tr_2z]
  rw [fill4_32 (by omega) hle]
  simp only [Option.bind_some]
  rw [fill4_33 (by omega) hle]
  simp only [Option.bind_some]
  rw [fill2_36]
  simp only [Option.bind_some]
  have hp0 : (wb_fi (wb_fi (wb_fi h 32 0 0 (rf (an A + 1)) fun x => nN 0) 33 0 0 (rf (an A + 1)) fun x => nN 0) 36 0 0 6 fun x => nN 0).2.2 11 0 0 = q + 1 := a2
  have hp15 : (wb_fi (wb_fi (wb_fi h 32 0 0 (rf (an A + 1)) fun x => nN 0) 33 0 0 (rf (an A + 1)) fun x => nN 0) 36 0 0 6 fun x => nN 0).1 15 q 7 = nN (aB A) := by
    rw [fi_nt (by decide), fi_nt (by decide), fi_nt (by decide)]; exact a4
  generalize hg : (wb_fi (wb_fi (wb_fi h 32 0 0 (rf (an A + 1)) fun x => nN 0) 33 0 0 (rf (an A + 1)) fun x => nN 0) 36 0 0 6 fun x => nN 0) = g at *
  have g1 : decide (0 < q + 1) = true := decide_eq_true (by omega)
  have g3 : decide (q < 2) = true := decide_eq_true a1
  simp (disch := omega) only [wb_iu_2, hp0, Nat.add_sub_cancel, g1, g3, L_0, L_1, L_2, L_3, L_4, L_5, L_6, L_7, L_8, L_9, L_10, L_11, L_12, L_13, L_14, L_15, L_16, L_17, L_18, L_19, L_20, L_21, L_22, L_23, L_24, L_25, L_26, L_27, L_28, L_29, L_30, L_31, L_32, L_33, L_34, L_35, L_40, L_41, L_42, L_43, L_44, L_45, L_47, L_48, L_50, L_53, L_57, L_59, L_60, L_61, L_63, L_64, L_97, L_100, L_101, L_102, L_103, L_122, L_130, L_216, L_255, L_364, L_400, L_402, L_420, L_728, L_768, L_999, L_1000, L_1093, L_1872, L_2000, L_9999, L_12345, L_252645135, L_858993459, L_1103515245, L_1431655765, Lm_1, Lm_2, Lm_8, N_zero, N_cast, N_add, N_mul, N_sub, N_addM, N_lt_tp, N_lt_fp, N_le_tp, N_le_fp, N_eq_tp, N_eq_fp, MN_ltp, MN_lep, NM_ltp, NM_lep, NM_eqp, MN_eqp, MM_lt_tp, MM_lt_fp, MM_le_tp, MM_le_fp, MM_eq_tp, MM_eq_fp, N_cl, N_in_t, N_in_f, M_in, N_div, N_rem, N_nb0, N_nb1, cond_true, cond_false, Bool.not_true, Bool.not_false, Bool.and_true, Bool.true_and, Bool.and_false, Bool.false_and, decide_true, decide_false, Option.bind_some, Option.bind_none, iu_nt (show 15 ≠ 11 by decide), iu_nt (show 15 ≠ 32 by decide), hp15]
  rw [q_Evening_unfold_L73_eq]
  have F1 : Fr SX h g := by rw [← hg]; exact Fr_trans (Fr_trans (Fr_fi (fun _ => rfl)) (Fr_fi (fun _ => rfl))) (Fr_fi (fun _ => rfl))
  have z32 : ∀ x, x < rf (an A + 1) → g.1 32 0 x = nN 0 := fun x hx => by rw [← hg, fi_nt (by decide), fi_nt (by decide), fi_in (Nat.zero_le _) hx]
  have z33 : ∀ x, x < rf (an A + 1) → g.1 33 0 x = nN 0 := fun x hx => by rw [← hg, fi_nt (by decide), fi_in (Nat.zero_le _) hx]
  have z36 : ∀ x, x < 6 → g.1 36 0 x = nN 0 := fun x hx => by rw [← hg, fi_in (Nat.zero_le _) hx]
  refine X_unfold_L hA hR hXX (an A) 0 (Nat.zero_add _) _ ⟨Fr_trans F1 (Fr_trans (Fr_trans (Fr_iu rfl) (Fr_iu rfl)) (Fr_iu rfl)), ?_, ?_, ?_, ?_, ?_, ?_⟩
  · intro r hr
    have hr0 : r = 0 := by rw [Nat.pow_zero] at hr; omega
    subst hr0
    rw [iu_nt (by decide)]
    show (wb_iu (wb_iu g 11 0 12 (nN 0)) 32 0 0 (nN (aB A))).1 32 0 0 = nN (aB A)
    rw [iu_at]
  · intro r hr
    have hr0 : r = 0 := by rw [Nat.pow_zero] at hr; omega
    subst hr0
    show (wb_iu (wb_iu (wb_iu g 11 0 12 (nN 0)) 32 0 0 (nN (aB A))) 33 0 0 (nN (10 - aB A))).1 33 0 0 = nN (10 - aB A)
    rw [iu_at]
  · intro x h1 h2
    have : rf (0 + 1) = 1 := by decide
    refine ⟨?_, ?_⟩
    · rw [iu_nt (by decide), iu_ne (by omega), iu_nt (by decide)]; exact z32 x h2
    · rw [iu_ne (by omega), iu_nt (by decide), iu_nt (by decide)]; exact z33 x h2
  · intro i hi _
    rw [iu_nt (by decide), iu_nt (by decide), iu_nt (by decide)]; exact z36 i (by omega)
  · intro t; omega
  · intro p' t; omega
end
